section
-- ===== PART A: goes FIRST, ahead of the names: the tables' words, and 'selects' of the private methods out of them =====
/-- a private method of a class that the tables say can be made, by its rows of tables_1 -/
def lw_okq (q : MethodName × Nat) : Prop := (q.1.cls ≠ "java/lang/invoke/MethodHandle" ∧ q.1.cls ≠ "java/lang/invoke/VarHandle") ∧ Cond.instantiable q.1.cls q.2 ∈ tables_1 ∧ Cond.privateMethod q.1 ∈ tables_1 ∧ Cond.instanceMethod q.1 ∈ tables_1
theorem lw_p0 : lw_okq (⟨"PegClerks", "rightWithRow", "(II)I"⟩, 6) := ⟨⟨by decide +kernel, by decide +kernel⟩, List.mem_of_getElem? (i := 12) (by decide +kernel), List.mem_of_getElem? (i := 387) (by decide +kernel), List.mem_of_getElem? (i := 388) (by decide +kernel)⟩
theorem lw_p1 : lw_okq (⟨"PegClerks", "nextStampsByStep", "()I"⟩, 6) := ⟨⟨by decide +kernel, by decide +kernel⟩, List.mem_of_getElem? (i := 12) (by decide +kernel), List.mem_of_getElem? (i := 395) (by decide +kernel), List.mem_of_getElem? (i := 396) (by decide +kernel)⟩
theorem lw_p2 : lw_okq (⟨"PegClerks", "nextStampsByPegs", "()I"⟩, 6) := ⟨⟨by decide +kernel, by decide +kernel⟩, List.mem_of_getElem? (i := 12) (by decide +kernel), List.mem_of_getElem? (i := 400) (by decide +kernel), List.mem_of_getElem? (i := 401) (by decide +kernel)⟩
theorem lw_p3 : lw_okq (⟨"PegClerksModel", "changes", "()V"⟩, 12) := ⟨⟨by decide +kernel, by decide +kernel⟩, List.mem_of_getElem? (i := 440) (by decide +kernel), List.mem_of_getElem? (i := 497) (by decide +kernel), List.mem_of_getElem? (i := 498) (by decide +kernel)⟩
theorem lw_p4 : lw_okq (⟨"PegClerksModel", "hasPeg", "(II)Z"⟩, 12) := ⟨⟨by decide +kernel, by decide +kernel⟩, List.mem_of_getElem? (i := 440) (by decide +kernel), List.mem_of_getElem? (i := 516) (by decide +kernel), List.mem_of_getElem? (i := 517) (by decide +kernel)⟩
theorem lw_p5 : lw_okq (⟨"PegClerksModel", "pegsIn", "(I)I"⟩, 12) := ⟨⟨by decide +kernel, by decide +kernel⟩, List.mem_of_getElem? (i := 440) (by decide +kernel), List.mem_of_getElem? (i := 520) (by decide +kernel), List.mem_of_getElem? (i := 521) (by decide +kernel)⟩
theorem lw_p6 : lw_okq (⟨"PegClerksModel", "stepsUpTo", "(I)I"⟩, 12) := ⟨⟨by decide +kernel, by decide +kernel⟩, List.mem_of_getElem? (i := 440) (by decide +kernel), List.mem_of_getElem? (i := 539) (by decide +kernel), List.mem_of_getElem? (i := 540) (by decide +kernel)⟩
theorem lw_p7 : lw_okq (⟨"PegClerksModel", "steps", "()Z"⟩, 12) := ⟨⟨by decide +kernel, by decide +kernel⟩, List.mem_of_getElem? (i := 440) (by decide +kernel), List.mem_of_getElem? (i := 543) (by decide +kernel), List.mem_of_getElem? (i := 544) (by decide +kernel)⟩
theorem lw_p8 : lw_okq (⟨"PegClerksModel", "wouldJam", "(I)Z"⟩, 12) := ⟨⟨by decide +kernel, by decide +kernel⟩, List.mem_of_getElem? (i := 440) (by decide +kernel), List.mem_of_getElem? (i := 547) (by decide +kernel), List.mem_of_getElem? (i := 548) (by decide +kernel)⟩
theorem lw_p9 : lw_okq (⟨"PegClerksModel", "falls", "(I)V"⟩, 12) := ⟨⟨by decide +kernel, by decide +kernel⟩, List.mem_of_getElem? (i := 440) (by decide +kernel), List.mem_of_getElem? (i := 551) (by decide +kernel), List.mem_of_getElem? (i := 552) (by decide +kernel)⟩
theorem lw_p10 : lw_okq (⟨"PegClerksModel", "wears", "(II)V"⟩, 12) := ⟨⟨by decide +kernel, by decide +kernel⟩, List.mem_of_getElem? (i := 440) (by decide +kernel), List.mem_of_getElem? (i := 555) (by decide +kernel), List.mem_of_getElem? (i := 556) (by decide +kernel)⟩
theorem lw_p11 : lw_okq (⟨"PegClerksModel", "lies", "()V"⟩, 12) := ⟨⟨by decide +kernel, by decide +kernel⟩, List.mem_of_getElem? (i := 440) (by decide +kernel), List.mem_of_getElem? (i := 559) (by decide +kernel), List.mem_of_getElem? (i := 560) (by decide +kernel)⟩
theorem lw_p12 : lw_okq (⟨"PegClerksModel", "newOne", "()V"⟩, 12) := ⟨⟨by decide +kernel, by decide +kernel⟩, List.mem_of_getElem? (i := 440) (by decide +kernel), List.mem_of_getElem? (i := 563) (by decide +kernel), List.mem_of_getElem? (i := 564) (by decide +kernel)⟩
theorem lw_p13 : lw_okq (⟨"PegClerksModel", "setIn", "(I)I"⟩, 12) := ⟨⟨by decide +kernel, by decide +kernel⟩, List.mem_of_getElem? (i := 440) (by decide +kernel), List.mem_of_getElem? (i := 579) (by decide +kernel), List.mem_of_getElem? (i := 580) (by decide +kernel)⟩
theorem lw_p14 : lw_okq (⟨"PegClerksModel", "pegsOf", "(I)I"⟩, 12) := ⟨⟨by decide +kernel, by decide +kernel⟩, List.mem_of_getElem? (i := 440) (by decide +kernel), List.mem_of_getElem? (i := 591) (by decide +kernel), List.mem_of_getElem? (i := 592) (by decide +kernel)⟩
theorem lw_p15 : lw_okq (⟨"PegClerksModel", "pegs", "()I"⟩, 12) := ⟨⟨by decide +kernel, by decide +kernel⟩, List.mem_of_getElem? (i := 440) (by decide +kernel), List.mem_of_getElem? (i := 599) (by decide +kernel), List.mem_of_getElem? (i := 600) (by decide +kernel)⟩
def lw_privs_1 : List (MethodName × Nat) := [(⟨"PegClerks", "rightWithRow", "(II)I"⟩, 6), (⟨"PegClerks", "nextStampsByStep", "()I"⟩, 6), (⟨"PegClerks", "nextStampsByPegs", "()I"⟩, 6), (⟨"PegClerksModel", "changes", "()V"⟩, 12), (⟨"PegClerksModel", "hasPeg", "(II)Z"⟩, 12), (⟨"PegClerksModel", "pegsIn", "(I)I"⟩, 12), (⟨"PegClerksModel", "stepsUpTo", "(I)I"⟩, 12), (⟨"PegClerksModel", "steps", "()Z"⟩, 12), (⟨"PegClerksModel", "wouldJam", "(I)Z"⟩, 12), (⟨"PegClerksModel", "falls", "(I)V"⟩, 12), (⟨"PegClerksModel", "wears", "(II)V"⟩, 12), (⟨"PegClerksModel", "lies", "()V"⟩, 12), (⟨"PegClerksModel", "newOne", "()V"⟩, 12), (⟨"PegClerksModel", "setIn", "(I)I"⟩, 12), (⟨"PegClerksModel", "pegsOf", "(I)I"⟩, 12), (⟨"PegClerksModel", "pegs", "()I"⟩, 12)]
theorem lw_r1 : ∀ q ∈ lw_privs_1, lw_okq q := List.forall_mem_cons.mpr ⟨lw_p0, List.forall_mem_cons.mpr ⟨lw_p1, List.forall_mem_cons.mpr ⟨lw_p2, List.forall_mem_cons.mpr ⟨lw_p3, List.forall_mem_cons.mpr ⟨lw_p4, List.forall_mem_cons.mpr ⟨lw_p5, List.forall_mem_cons.mpr ⟨lw_p6, List.forall_mem_cons.mpr ⟨lw_p7, List.forall_mem_cons.mpr ⟨lw_p8, List.forall_mem_cons.mpr ⟨lw_p9, List.forall_mem_cons.mpr ⟨lw_p10, List.forall_mem_cons.mpr ⟨lw_p11, List.forall_mem_cons.mpr ⟨lw_p12, List.forall_mem_cons.mpr ⟨lw_p13, List.forall_mem_cons.mpr ⟨lw_p14, List.forall_mem_cons.mpr ⟨lw_p15, fun _ h => absurd h List.not_mem_nil⟩⟩⟩⟩⟩⟩⟩⟩⟩⟩⟩⟩⟩⟩⟩⟩
theorem lw_p16 : lw_okq (⟨"PegClerksModel", "marks", "()I"⟩, 12) := ⟨⟨by decide +kernel, by decide +kernel⟩, List.mem_of_getElem? (i := 440) (by decide +kernel), List.mem_of_getElem? (i := 603) (by decide +kernel), List.mem_of_getElem? (i := 604) (by decide +kernel)⟩
theorem lw_p17 : lw_okq (⟨"PegClerksModel", "keeps", "()V"⟩, 12) := ⟨⟨by decide +kernel, by decide +kernel⟩, List.mem_of_getElem? (i := 440) (by decide +kernel), List.mem_of_getElem? (i := 612) (by decide +kernel), List.mem_of_getElem? (i := 613) (by decide +kernel)⟩
theorem lw_p18 : lw_okq (⟨"PegClerksModel", "comesBack", "()V"⟩, 12) := ⟨⟨by decide +kernel, by decide +kernel⟩, List.mem_of_getElem? (i := 440) (by decide +kernel), List.mem_of_getElem? (i := 616) (by decide +kernel), List.mem_of_getElem? (i := 617) (by decide +kernel)⟩
theorem lw_p19 : lw_okq (⟨"PegClerksModel", "readsRow", "()Z"⟩, 12) := ⟨⟨by decide +kernel, by decide +kernel⟩, List.mem_of_getElem? (i := 440) (by decide +kernel), List.mem_of_getElem? (i := 652) (by decide +kernel), List.mem_of_getElem? (i := 653) (by decide +kernel)⟩
theorem lw_p20 : lw_okq (⟨"PegClerksModel", "isHere", "(II)Z"⟩, 12) := ⟨⟨by decide +kernel, by decide +kernel⟩, List.mem_of_getElem? (i := 440) (by decide +kernel), List.mem_of_getElem? (i := 656) (by decide +kernel), List.mem_of_getElem? (i := 657) (by decide +kernel)⟩
theorem lw_p21 : lw_okq (⟨"PegClerksModel", "takesOne", "(I)Z"⟩, 12) := ⟨⟨by decide +kernel, by decide +kernel⟩, List.mem_of_getElem? (i := 440) (by decide +kernel), List.mem_of_getElem? (i := 660) (by decide +kernel), List.mem_of_getElem? (i := 661) (by decide +kernel)⟩
def lw_privs_2 : List (MethodName × Nat) := [(⟨"PegClerksModel", "marks", "()I"⟩, 12), (⟨"PegClerksModel", "keeps", "()V"⟩, 12), (⟨"PegClerksModel", "comesBack", "()V"⟩, 12), (⟨"PegClerksModel", "readsRow", "()Z"⟩, 12), (⟨"PegClerksModel", "isHere", "(II)Z"⟩, 12), (⟨"PegClerksModel", "takesOne", "(I)Z"⟩, 12)]
theorem lw_r2 : ∀ q ∈ lw_privs_2, lw_okq q := List.forall_mem_cons.mpr ⟨lw_p16, List.forall_mem_cons.mpr ⟨lw_p17, List.forall_mem_cons.mpr ⟨lw_p18, List.forall_mem_cons.mpr ⟨lw_p19, List.forall_mem_cons.mpr ⟨lw_p20, List.forall_mem_cons.mpr ⟨lw_p21, fun _ h => absurd h List.not_mem_nil⟩⟩⟩⟩⟩⟩
def lw_privs : List (MethodName × Nat) := lw_privs_1 ++ (lw_privs_2)
def lw_tbl : List Cond := k2_sels lw_privs ++ tables_1
theorem lw_privs_ok : ∀ q ∈ lw_privs, lw_okq q := by
  show ∀ q ∈ lw_privs_1 ++ (lw_privs_2), lw_okq q
  exact List.forall_mem_append.mpr ⟨lw_r1, lw_r2⟩
/-! ===== BEGIN words of one list among another's, by their places ===== -/
theorem goodIn_r {big : List Cond} (ws : List Cond) (ps : List Nat) (hp : ws = ps.filterMap (fun i => big[i]?)) (h : ws.all goodWord = true) : GoodIn big ws := by
  intro w hw
  have h1 := List.all_eq_true.mp h w hw
  rw [hp] at hw
  obtain ⟨i, -, hi⟩ := List.mem_filterMap.mp hw
  have hm : w ∈ big := by first | exact List.mem_of_getElem? hi | exact List.getElem?_mem hi
  exact ⟨hm, good_of_word h1⟩
theorem goodIn_app {big a b : List Cond} (ha : GoodIn big a) (hb : GoodIn big b) : GoodIn big (a ++ b) := fun w h => (List.mem_append.mp h).elim (ha w) (hb w)
theorem goodIn_ca {big a b : List Cond} {c : Cond} (ha : GoodIn big (c :: a)) (hb : GoodIn big b) : GoodIn big (c :: (a ++ b)) := fun w h => (List.mem_cons.mp h).elim (fun e => ha w (List.mem_cons.mpr (Or.inl e))) (fun h => (List.mem_append.mp h).elim (fun h => ha w (List.mem_cons.mpr (Or.inr h))) (hb w))
theorem goodIn_sub {big ws : List Cond} (hm : ∀ w ∈ ws, w ∈ big) (h : ws.all goodWord = true) : GoodIn big ws := fun w hw => ⟨hm w hw, good_of_word (List.all_eq_true.mp h w hw)⟩
/-! ===== END ===== -/

/-! ===== BEGIN printed: names, fields, word lists, decode rows ===== -/
def RX0 : String := "PegClerks$Clerk"
def TX0 : u_T := fun k => match k with
  | 0 => ("PegClerks$Clerk", "settings", "[I", true)
  | 1 => ("PegClerks$Clerk", "drum", "LPegClerks$Drum;", true)
  | 2 => ("PegClerks$Clerk", "stamps", "LPegClerks$Stamps;", true)
  | 3 => ("PegClerks$Clerk", "jammed", "Z", false)
  | 4 => ("PegClerks$Clerk", "order", "I", false)
  | 5 => ("PegClerks$Clerk", "formStamps", "I", false)
  | 6 => ("PegClerks$Clerk", "formSpoiled", "Z", false)
  | 7 => ("PegClerks$Clerk", "formSteps", "I", false)
  | 8 => ("PegClerks$Clerk", "steps", "I", false)
  | 9 => ("PegClerks$Clerk", "rightForms", "I", false)
  | 10 => ("PegClerks$Clerk", "wrongForms", "I", false)
  | 11 => ("PegClerks$Clerk", "spoiledForms", "I", false)
  | _ => ("PegClerks$Clerk", "jams", "I", false)
def tyX0 : Nat → FieldType := fun k => match k with
  | 0 => .array .int
  | 1 => .object "PegClerks$Drum"
  | 2 => .object "PegClerks$Stamps"
  | 3 => .boolean
  | 4 => .int
  | 5 => .int
  | 6 => .boolean
  | 7 => .int
  | 8 => .int
  | 9 => .int
  | 10 => .int
  | 11 => .int
  | _ => .int
abbrev wsX00 : List Cond := u_ws RX0 TX0 13
theorem nmX0 : ∀ a, a < 13 → ∀ b, b < 13 → a ≠ b → (TX0 a).2.1 ≠ (TX0 b).2.1 := by decide +kernel
theorem tyX0_ok : ∀ k, k < 13 → parseFieldDescriptor (TX0 k).2.2.1 = some (tyX0 k) := by decide +kernel
abbrev cX0_init : ByteArray := prog_2_method_1_code
def yX0_init : MethodName := ⟨RX0, "<init>", "()V"⟩
abbrev cX0_copyFrom : ByteArray := prog_2_method_2_code
def yX0_copyFrom : MethodName := ⟨RX0, "copyFrom", "(LPegClerks$Clerk;)V"⟩
abbrev cX0_wouldJamAt : ByteArray := prog_2_method_3_code
def yX0_wouldJamAt : MethodName := ⟨RX0, "wouldJamAt", "(I)Z"⟩
abbrev cX0_makeSteps : ByteArray := prog_2_method_4_code
def yX0_makeSteps : MethodName := ⟨RX0, "makeSteps", "(I)I"⟩
abbrev cX0_makeOneStep : ByteArray := prog_2_method_5_code
def yX0_makeOneStep : MethodName := ⟨RX0, "makeOneStep", "()Z"⟩
abbrev cX0_letStampsFall : ByteArray := prog_2_method_6_code
def yX0_letStampsFall : MethodName := ⟨RX0, "letStampsFall", "(I)V"⟩
abbrev cX0_letStampFall : ByteArray := prog_2_method_7_code
def yX0_letStampFall : MethodName := ⟨RX0, "letStampFall", "(I)V"⟩
abbrev cX0_finishForm : ByteArray := prog_2_method_8_code
def yX0_finishForm : MethodName := ⟨RX0, "finishForm", "()V"⟩
abbrev cX0_layForm : ByteArray := prog_2_method_9_code
def yX0_layForm : MethodName := ⟨RX0, "layForm", "()V"⟩
def RX1 : String := "PegClerks$Drum"
def TX1 : u_T := fun k => match k with
  | 0 => ("PegClerks$Drum", "rows", "[I", true)
  | 1 => ("PegClerks$Drum", "stampings", "[I", true)
  | 2 => ("PegClerks$Drum", "at", "I", false)
  | _ => ("PegClerks$Drum", "fallenOut", "I", false)
def tyX1 : Nat → FieldType := fun k => match k with
  | 0 => .array .int
  | 1 => .array .int
  | 2 => .int
  | _ => .int
abbrev wsX10 : List Cond := u_ws RX1 TX1 4
theorem nmX1 : ∀ a, a < 4 → ∀ b, b < 4 → a ≠ b → (TX1 a).2.1 ≠ (TX1 b).2.1 := by decide +kernel
theorem tyX1_ok : ∀ k, k < 4 → parseFieldDescriptor (TX1 k).2.2.1 = some (tyX1 k) := by decide +kernel
abbrev cX1_init : ByteArray := prog_3_method_1_code
def yX1_init : MethodName := ⟨RX1, "<init>", "()V"⟩
abbrev cX1_copyFrom : ByteArray := prog_3_method_2_code
def yX1_copyFrom : MethodName := ⟨RX1, "copyFrom", "(LPegClerks$Drum;)V"⟩
abbrev cX1_rowBehind : ByteArray := prog_3_method_3_code
def yX1_rowBehind : MethodName := ⟨RX1, "rowBehind", "(I)I"⟩
abbrev cX1_goOn : ByteArray := prog_3_method_4_code
def yX1_goOn : MethodName := ⟨RX1, "goOn", "()V"⟩
abbrev cX1_hasPeg : ByteArray := prog_3_method_5_code
def yX1_hasPeg : MethodName := ⟨RX1, "hasPeg", "(II)Z"⟩
abbrev cX1_pegsInRow : ByteArray := prog_3_method_6_code
def yX1_pegsInRow : MethodName := ⟨RX1, "pegsInRow", "(I)I"⟩
abbrev cX1_pegsAtPlace : ByteArray := prog_3_method_7_code
def yX1_pegsAtPlace : MethodName := ⟨RX1, "pegsAtPlace", "(I)I"⟩
abbrev cX1_allPegs : ByteArray := prog_3_method_8_code
def yX1_allPegs : MethodName := ⟨RX1, "allPegs", "()I"⟩
abbrev cX1_giveRow : ByteArray := prog_3_method_9_code
def yX1_giveRow : MethodName := ⟨RX1, "giveRow", "(II)V"⟩
abbrev cX1_wearPeg : ByteArray := prog_3_method_10_code
def yX1_wearPeg : MethodName := ⟨RX1, "wearPeg", "(III)V"⟩
def RX2 : String := "PegClerks$History"
def TX2 : u_T := fun k => match k with
  | 0 => ("PegClerks$History", "states", "[LPegClerks$Clerk;", true)
  | 1 => ("PegClerks$History", "next", "I", false)
  | _ => ("PegClerks$History", "kept", "I", false)
def tyX2 : Nat → FieldType := fun k => match k with
  | 0 => .array (.object "PegClerks$Clerk")
  | 1 => .int
  | _ => .int
abbrev wsX20 : List Cond := u_ws RX2 TX2 3
theorem nmX2 : ∀ a, a < 3 → ∀ b, b < 3 → a ≠ b → (TX2 a).2.1 ≠ (TX2 b).2.1 := by decide +kernel
theorem tyX2_ok : ∀ k, k < 3 → parseFieldDescriptor (TX2 k).2.2.1 = some (tyX2 k) := by decide +kernel
abbrev cX2_init : ByteArray := prog_4_method_1_code
def yX2_init : MethodName := ⟨RX2, "<init>", "()V"⟩
abbrev cX2_keep : ByteArray := prog_4_method_2_code
def yX2_keep : MethodName := ⟨RX2, "keep", "(LPegClerks$Clerk;)V"⟩
abbrev cX2_takeBack : ByteArray := prog_4_method_3_code
def yX2_takeBack : MethodName := ⟨RX2, "takeBack", "(LPegClerks$Clerk;)V"⟩
def RX3 : String := "PegClerks$Pad"
def TX3 : u_T := fun k => match k with
  | 0 => ("PegClerks$Pad", "signs", "[C", true)
  | _ => ("PegClerks$Pad", "length", "I", false)
def tyX3 : Nat → FieldType := fun k => match k with
  | 0 => .array .char
  | _ => .int
abbrev wsX30 : List Cond := u_ws RX3 TX3 2
theorem nmX3 : ∀ a, a < 2 → ∀ b, b < 2 → a ≠ b → (TX3 a).2.1 ≠ (TX3 b).2.1 := by decide +kernel
theorem tyX3_ok : ∀ k, k < 2 → parseFieldDescriptor (TX3 k).2.2.1 = some (tyX3 k) := by decide +kernel
abbrev cX3_init : ByteArray := prog_5_method_1_code
def yX3_init : MethodName := ⟨RX3, "<init>", "()V"⟩
abbrev cX3_charactersIn : ByteArray := prog_5_method_2_code
def yX3_charactersIn : MethodName := ⟨RX3, "charactersIn", "(J)I"⟩
abbrev cX3_append : ByteArray := prog_5_method_3_code
def yX3_append : MethodName := ⟨RX3, "append", "(JI)V"⟩
abbrev cX3_empty : ByteArray := prog_5_method_4_code
def yX3_empty : MethodName := ⟨RX3, "empty", "()V"⟩
abbrev cX3_firstFault : ByteArray := prog_5_method_5_code
def yX3_firstFault : MethodName := ⟨RX3, "firstFault", "()I"⟩
abbrev cX3_dueBehind : ByteArray := prog_5_method_6_code
def yX3_dueBehind : MethodName := ⟨RX3, "dueBehind", "(IC)I"⟩
abbrev cX3_dueBehindPlaces : ByteArray := prog_5_method_7_code
def yX3_dueBehindPlaces : MethodName := ⟨RX3, "dueBehindPlaces", "(IC)I"⟩
abbrev cX3_changeRows : ByteArray := prog_5_method_8_code
def yX3_changeRows : MethodName := ⟨RX3, "changeRows", "(LPegClerks$Drum;)V"⟩
def RX4 : String := "PegClerks$Stamps"
def TX4 : u_T := fun k => match k with
  | 0 => ("PegClerks$Stamps", "inks", "[I", true)
  | 1 => ("PegClerks$Stamps", "marks", "[I", true)
  | 2 => ("PegClerks$Stamps", "dryFalls", "[I", true)
  | _ => ("PegClerks$Stamps", "spoilings", "[I", true)
def tyX4 : Nat → FieldType := fun k => match k with
  | 0 => .array .int
  | 1 => .array .int
  | 2 => .array .int
  | _ => .array .int
abbrev wsX40 : List Cond := u_ws RX4 TX4 4
theorem nmX4 : ∀ a, a < 4 → ∀ b, b < 4 → a ≠ b → (TX4 a).2.1 ≠ (TX4 b).2.1 := by decide +kernel
theorem tyX4_ok : ∀ k, k < 4 → parseFieldDescriptor (TX4 k).2.2.1 = some (tyX4 k) := by decide +kernel
abbrev cX4_init : ByteArray := prog_6_method_1_code
def yX4_init : MethodName := ⟨RX4, "<init>", "()V"⟩
abbrev cX4_copyFrom : ByteArray := prog_6_method_2_code
def yX4_copyFrom : MethodName := ⟨RX4, "copyFrom", "(LPegClerks$Stamps;)V"⟩
abbrev cX4_leavesMark : ByteArray := prog_6_method_3_code
def yX4_leavesMark : MethodName := ⟨RX4, "leavesMark", "(II)Z"⟩
abbrev cX4_allMarks : ByteArray := prog_6_method_4_code
def yX4_allMarks : MethodName := ⟨RX4, "allMarks", "()I"⟩
def RX5 : String := "PegClerks"
def TX5 : u_T := fun k => match k with
  | 0 => ("PegClerks", "clerk", "LPegClerks$Clerk;", true)
  | 1 => ("PegClerks", "trial", "LPegClerks$Clerk;", true)
  | 2 => ("PegClerks", "history", "LPegClerks$History;", true)
  | 3 => ("PegClerks", "pad", "LPegClerks$Pad;", true)
  | 4 => ("PegClerks", "slots", "[LPegClerks$Clerk;", true)
  | _ => ("PegClerks", "saved", "[Z", true)
def tyX5 : Nat → FieldType := fun k => match k with
  | 0 => .object "PegClerks$Clerk"
  | 1 => .object "PegClerks$Clerk"
  | 2 => .object "PegClerks$History"
  | 3 => .object "PegClerks$Pad"
  | 4 => .array (.object "PegClerks$Clerk")
  | _ => .array .boolean
abbrev wsX50 : List Cond := u_ws RX5 TX5 6
theorem nmX5 : ∀ a, a < 6 → ∀ b, b < 6 → a ≠ b → (TX5 a).2.1 ≠ (TX5 b).2.1 := by decide +kernel
theorem tyX5_ok : ∀ k, k < 6 → parseFieldDescriptor (TX5 k).2.2.1 = some (tyX5 k) := by decide +kernel
abbrev cX5_init : ByteArray := prog_1_method_1_code
def yX5_init : MethodName := ⟨RX5, "<init>", "()V"⟩
abbrev cX5_set : ByteArray := prog_1_method_2_code
def yX5_set : MethodName := ⟨RX5, "set", "(II)I"⟩
abbrev cX5_peg : ByteArray := prog_1_method_3_code
def yX5_peg : MethodName := ⟨RX5, "peg", "(II)I"⟩
abbrev cX5_order : ByteArray := prog_1_method_4_code
def yX5_order : MethodName := ⟨RX5, "order", "(I)I"⟩
abbrev cX5_ink : ByteArray := prog_1_method_5_code
def yX5_ink : MethodName := ⟨RX5, "ink", "(I)I"⟩
abbrev cX5_step : ByteArray := prog_1_method_6_code
def yX5_step : MethodName := ⟨RX5, "step", "(I)I"⟩
abbrev cX5_free : ByteArray := prog_1_method_7_code
def yX5_free : MethodName := ⟨RX5, "free", "()I"⟩
abbrev cX5_newForm : ByteArray := prog_1_method_8_code
def yX5_newForm : MethodName := ⟨RX5, "newForm", "()I"⟩
abbrev cX5_read : ByteArray := prog_1_method_9_code
def yX5_read : MethodName := ⟨RX5, "read", "()I"⟩
abbrev cX5_row : ByteArray := prog_1_method_10_code
def yX5_row : MethodName := ⟨RX5, "row", "(II)I"⟩
abbrev cX5_stamped : ByteArray := prog_1_method_11_code
def yX5_stamped : MethodName := ⟨RX5, "stamped", "(II)I"⟩
abbrev cX5_stamp : ByteArray := prog_1_method_12_code
def yX5_stamp : MethodName := ⟨RX5, "stamp", "(II)I"⟩
abbrev cX5_count : ByteArray := prog_1_method_13_code
def yX5_count : MethodName := ⟨RX5, "count", "(I)I"⟩
abbrev cX5_untilJam : ByteArray := prog_1_method_14_code
def yX5_untilJam : MethodName := ⟨RX5, "untilJam", "()I"⟩
abbrev cX5_ifStepped : ByteArray := prog_1_method_15_code
def yX5_ifStepped : MethodName := ⟨RX5, "ifStepped", "(II)I"⟩
abbrev cX5_bestOut : ByteArray := prog_1_method_16_code
def yX5_bestOut : MethodName := ⟨RX5, "bestOut", "()I"⟩
abbrev cX5_nextStamps : ByteArray := prog_1_method_17_code
def yX5_nextStamps : MethodName := ⟨RX5, "nextStamps", "(I)I"⟩
abbrev cX5_put : ByteArray := prog_1_method_18_code
def yX5_put : MethodName := ⟨RX5, "put", "(J)I"⟩
abbrev cX5_wipe : ByteArray := prog_1_method_19_code
def yX5_wipe : MethodName := ⟨RX5, "wipe", "()I"⟩
abbrev cX5_fault : ByteArray := prog_1_method_20_code
def yX5_fault : MethodName := ⟨RX5, "fault", "()I"⟩
abbrev cX5_undo : ByteArray := prog_1_method_21_code
def yX5_undo : MethodName := ⟨RX5, "undo", "()I"⟩
abbrev cX5_save : ByteArray := prog_1_method_22_code
def yX5_save : MethodName := ⟨RX5, "save", "(I)I"⟩
abbrev cX5_restore : ByteArray := prog_1_method_23_code
def yX5_restore : MethodName := ⟨RX5, "restore", "(I)I"⟩
abbrev cX5_isRow : ByteArray := prog_1_method_24_code
def yX5_isRow : MethodName := ⟨RX5, "isRow", "(I)Z"⟩
abbrev cX5_isPlace : ByteArray := prog_1_method_25_code
def yX5_isPlace : MethodName := ⟨RX5, "isPlace", "(I)Z"⟩
abbrev cX5_asNumber : ByteArray := prog_1_method_26_code
def yX5_asNumber : MethodName := ⟨RX5, "asNumber", "(Z)I"⟩
abbrev cX5_rightWithRow : ByteArray := prog_1_method_27_code
def yX5_rightWithRow : MethodName := ⟨RX5, "rightWithRow", "(II)I"⟩
abbrev cX5_nextStampsByStep : ByteArray := prog_1_method_28_code
def yX5_nextStampsByStep : MethodName := ⟨RX5, "nextStampsByStep", "()I"⟩
abbrev cX5_nextStampsByPegs : ByteArray := prog_1_method_29_code
def yX5_nextStampsByPegs : MethodName := ⟨RX5, "nextStampsByPegs", "()I"⟩
def RX6 : String := "PegClerksModel"
def TX6 : u_T := fun k => match k with
  | 0 => ("PegClerksModel", "all", "[I", true)
  | 1 => ("PegClerksModel", "kept", "[I", true)
  | 2 => ("PegClerksModel", "history", "[I", true)
  | 3 => ("PegClerksModel", "historyLong", "I", false)
  | 4 => ("PegClerksModel", "slots", "[I", true)
  | 5 => ("PegClerksModel", "isSaved", "[I", true)
  | 6 => ("PegClerksModel", "text", "[I", true)
  | 7 => ("PegClerksModel", "textLong", "I", false)
  | 8 => ("PegClerksModel", "spot", "I", false)
  | 9 => ("PegClerksModel", "toldRows", "[I", true)
  | 10 => ("PegClerksModel", "toldSets", "[I", true)
  | _ => ("PegClerksModel", "told", "I", false)
def tyX6 : Nat → FieldType := fun k => match k with
  | 0 => .array .int
  | 1 => .array .int
  | 2 => .array .int
  | 3 => .int
  | 4 => .array .int
  | 5 => .array .int
  | 6 => .array .int
  | 7 => .int
  | 8 => .int
  | 9 => .array .int
  | 10 => .array .int
  | _ => .int
abbrev wsX60 : List Cond := u_ws RX6 TX6 12
theorem nmX6 : ∀ a, a < 12 → ∀ b, b < 12 → a ≠ b → (TX6 a).2.1 ≠ (TX6 b).2.1 := by decide +kernel
theorem tyX6_ok : ∀ k, k < 12 → parseFieldDescriptor (TX6 k).2.2.1 = some (tyX6 k) := by decide +kernel
abbrev cX6_init : ByteArray := prog_8_method_1_code
def yX6_init : MethodName := ⟨RX6, "<init>", "()V"⟩
abbrev cX6_in : ByteArray := prog_8_method_3_code
def yX6_in : MethodName := ⟨RX6, "in", "(JJJ)Z"⟩
abbrev cX6_changes : ByteArray := prog_8_method_4_code
def yX6_changes : MethodName := ⟨RX6, "changes", "()V"⟩
abbrev cX6_keeps : ByteArray := prog_8_method_5_code
def yX6_keeps : MethodName := ⟨RX6, "keeps", "()V"⟩
abbrev cX6_comesBack : ByteArray := prog_8_method_6_code
def yX6_comesBack : MethodName := ⟨RX6, "comesBack", "()V"⟩
abbrev cX6_isRow : ByteArray := prog_8_method_7_code
def yX6_isRow : MethodName := ⟨RX6, "isRow", "(I)Z"⟩
abbrev cX6_isPlace : ByteArray := prog_8_method_8_code
def yX6_isPlace : MethodName := ⟨RX6, "isPlace", "(I)Z"⟩
abbrev cX6_at : ByteArray := prog_8_method_9_code
def yX6_at : MethodName := ⟨RX6, "at", "(II)I"⟩
abbrev cX6_hasPeg : ByteArray := prog_8_method_10_code
def yX6_hasPeg : MethodName := ⟨RX6, "hasPeg", "(II)Z"⟩
abbrev cX6_pegsIn : ByteArray := prog_8_method_11_code
def yX6_pegsIn : MethodName := ⟨RX6, "pegsIn", "(I)I"⟩
abbrev cX6_setIn : ByteArray := prog_8_method_12_code
def yX6_setIn : MethodName := ⟨RX6, "setIn", "(I)I"⟩
abbrev cX6_pegs : ByteArray := prog_8_method_13_code
def yX6_pegs : MethodName := ⟨RX6, "pegs", "()I"⟩
abbrev cX6_wouldJam : ByteArray := prog_8_method_14_code
def yX6_wouldJam : MethodName := ⟨RX6, "wouldJam", "(I)Z"⟩
abbrev cX6_newOne : ByteArray := prog_8_method_15_code
def yX6_newOne : MethodName := ⟨RX6, "newOne", "()V"⟩
abbrev cX6_falls : ByteArray := prog_8_method_16_code
def yX6_falls : MethodName := ⟨RX6, "falls", "(I)V"⟩
abbrev cX6_wears : ByteArray := prog_8_method_17_code
def yX6_wears : MethodName := ⟨RX6, "wears", "(II)V"⟩
abbrev cX6_lies : ByteArray := prog_8_method_18_code
def yX6_lies : MethodName := ⟨RX6, "lies", "()V"⟩
abbrev cX6_steps : ByteArray := prog_8_method_19_code
def yX6_steps : MethodName := ⟨RX6, "steps", "()Z"⟩
abbrev cX6_stepsUpTo : ByteArray := prog_8_method_20_code
def yX6_stepsUpTo : MethodName := ⟨RX6, "stepsUpTo", "(I)I"⟩
abbrev cX6_isSetting : ByteArray := prog_8_method_21_code
def yX6_isSetting : MethodName := ⟨RX6, "isSetting", "(II)Z"⟩
abbrev cX6_set : ByteArray := prog_8_method_22_code
def yX6_set : MethodName := ⟨RX6, "set", "(II)I"⟩
abbrev cX6_peg : ByteArray := prog_8_method_23_code
def yX6_peg : MethodName := ⟨RX6, "peg", "(II)I"⟩
abbrev cX6_order : ByteArray := prog_8_method_24_code
def yX6_order : MethodName := ⟨RX6, "order", "(I)I"⟩
abbrev cX6_ink : ByteArray := prog_8_method_25_code
def yX6_ink : MethodName := ⟨RX6, "ink", "(I)I"⟩
abbrev cX6_step : ByteArray := prog_8_method_26_code
def yX6_step : MethodName := ⟨RX6, "step", "(I)I"⟩
abbrev cX6_free : ByteArray := prog_8_method_27_code
def yX6_free : MethodName := ⟨RX6, "free", "()I"⟩
abbrev cX6_newForm : ByteArray := prog_8_method_28_code
def yX6_newForm : MethodName := ⟨RX6, "newForm", "()I"⟩
abbrev cX6_row : ByteArray := prog_8_method_29_code
def yX6_row : MethodName := ⟨RX6, "row", "(II)I"⟩
abbrev cX6_stamped : ByteArray := prog_8_method_30_code
def yX6_stamped : MethodName := ⟨RX6, "stamped", "(II)I"⟩
abbrev cX6_pegsOf : ByteArray := prog_8_method_31_code
def yX6_pegsOf : MethodName := ⟨RX6, "pegsOf", "(I)I"⟩
abbrev cX6_stamp : ByteArray := prog_8_method_32_code
def yX6_stamp : MethodName := ⟨RX6, "stamp", "(II)I"⟩
abbrev cX6_marks : ByteArray := prog_8_method_33_code
def yX6_marks : MethodName := ⟨RX6, "marks", "()I"⟩
abbrev cX6_count : ByteArray := prog_8_method_34_code
def yX6_count : MethodName := ⟨RX6, "count", "(I)I"⟩
abbrev cX6_untilJam : ByteArray := prog_8_method_35_code
def yX6_untilJam : MethodName := ⟨RX6, "untilJam", "()I"⟩
abbrev cX6_ifStepped : ByteArray := prog_8_method_36_code
def yX6_ifStepped : MethodName := ⟨RX6, "ifStepped", "(II)I"⟩
abbrev cX6_bestOut : ByteArray := prog_8_method_37_code
def yX6_bestOut : MethodName := ⟨RX6, "bestOut", "()I"⟩
abbrev cX6_nextStamps : ByteArray := prog_8_method_38_code
def yX6_nextStamps : MethodName := ⟨RX6, "nextStamps", "(I)I"⟩
abbrev cX6_charactersOf : ByteArray := prog_8_method_39_code
def yX6_charactersOf : MethodName := ⟨RX6, "charactersOf", "(J)I"⟩
abbrev cX6_put : ByteArray := prog_8_method_40_code
def yX6_put : MethodName := ⟨RX6, "put", "(J)I"⟩
abbrev cX6_wipe : ByteArray := prog_8_method_41_code
def yX6_wipe : MethodName := ⟨RX6, "wipe", "()I"⟩
abbrev cX6_isHere : ByteArray := prog_8_method_42_code
def yX6_isHere : MethodName := ⟨RX6, "isHere", "(II)Z"⟩
abbrev cX6_takesOne : ByteArray := prog_8_method_43_code
def yX6_takesOne : MethodName := ⟨RX6, "takesOne", "(I)Z"⟩
abbrev cX6_readsRow : ByteArray := prog_8_method_44_code
def yX6_readsRow : MethodName := ⟨RX6, "readsRow", "()Z"⟩
abbrev cX6_fault : ByteArray := prog_8_method_45_code
def yX6_fault : MethodName := ⟨RX6, "fault", "()I"⟩
abbrev cX6_read : ByteArray := prog_8_method_46_code
def yX6_read : MethodName := ⟨RX6, "read", "()I"⟩
abbrev cX6_undo : ByteArray := prog_8_method_47_code
def yX6_undo : MethodName := ⟨RX6, "undo", "()I"⟩
abbrev cX6_isSlot : ByteArray := prog_8_method_48_code
def yX6_isSlot : MethodName := ⟨RX6, "isSlot", "(I)Z"⟩
abbrev cX6_save : ByteArray := prog_8_method_49_code
def yX6_save : MethodName := ⟨RX6, "save", "(I)I"⟩
abbrev cX6_restore : ByteArray := prog_8_method_50_code
def yX6_restore : MethodName := ⟨RX6, "restore", "(I)I"⟩
def RJ6 : String := "java/lang/Integer"
def TJ6 : u_T := fun k => match k with
  | _ => ("", "", "", false)
def tyJ6 : Nat → FieldType := fun k => match k with
  | _ => .int
abbrev wsJ60 : List Cond := u_ws RJ6 TJ6 0
theorem nmJ6 : ∀ a, a < 0 → ∀ b, b < 0 → a ≠ b → (TJ6 a).2.1 ≠ (TJ6 b).2.1 := by decide +kernel
theorem tyJ6_ok : ∀ k, k < 0 → parseFieldDescriptor (TJ6 k).2.2.1 = some (tyJ6 k) := by decide +kernel
abbrev cJ6_bitCount_0f7a4 : ByteArray := prog_9_method_49_code
def yJ6_bitCount_0f7a4 : MethodName := ⟨RJ6, "bitCount", "(I)I"⟩
def RJ9 : String := "java/lang/Math"
def TJ9 : u_T := fun k => match k with
  | _ => ("", "", "", false)
def tyJ9 : Nat → FieldType := fun k => match k with
  | _ => .int
abbrev wsJ90 : List Cond := u_ws RJ9 TJ9 0
theorem nmJ9 : ∀ a, a < 0 → ∀ b, b < 0 → a ≠ b → (TJ9 a).2.1 ≠ (TJ9 b).2.1 := by decide +kernel
theorem tyJ9_ok : ∀ k, k < 0 → parseFieldDescriptor (TJ9 k).2.2.1 = some (tyJ9 k) := by decide +kernel
abbrev cJ9_floorMod_7cf53 : ByteArray := prog_10_method_50_code
def yJ9_floorMod_7cf53 : MethodName := ⟨RJ9, "floorMod", "(II)I"⟩
abbrev cJ9_min_7cf53 : ByteArray := prog_10_method_69_code
def yJ9_min_7cf53 : MethodName := ⟨RJ9, "min", "(II)I"⟩
def RJ10 : String := "java/lang/System"
def TJ10 : u_T := fun k => match k with
  | _ => ("", "", "", false)
def tyJ10 : Nat → FieldType := fun k => match k with
  | _ => .int
abbrev wsJ100 : List Cond := u_ws RJ10 TJ10 0
theorem nmJ10 : ∀ a, a < 0 → ∀ b, b < 0 → a ≠ b → (TJ10 a).2.1 ≠ (TJ10 b).2.1 := by decide +kernel
theorem tyJ10_ok : ∀ k, k < 0 → parseFieldDescriptor (TJ10 k).2.2.1 = some (tyJ10 k) := by decide +kernel
def RL : String := "PegClerksLaw"
abbrev cL_law : ByteArray := code
def yL_law : MethodName := ⟨RL, "law", "([I)Z"⟩
def wsX1_init : List Cond := .code yX1_init cX1_init 1 none :: ([.methodLink RX1 3 objectInit, .instanceMethod objectInit, .code objectInit ⟨#[0xb1]⟩ 1 none, .arrayClass .int, .fieldLink RX1 9 "PegClerks$Drum" "rows" "[I", .fieldLink RX1 15 "PegClerks$Drum" "stampings" "[I"] ++ wsX10)
def wsX4_init : List Cond := .code yX4_init cX4_init 1 none :: ([.methodLink RX4 3 objectInit, .instanceMethod objectInit, .code objectInit ⟨#[0xb1]⟩ 1 none, .arrayClass .int, .fieldLink RX4 9 "PegClerks$Stamps" "inks" "[I", .fieldLink RX4 15 "PegClerks$Stamps" "marks" "[I", .fieldLink RX4 18 "PegClerks$Stamps" "dryFalls" "[I", .fieldLink RX4 21 "PegClerks$Stamps" "spoilings" "[I"] ++ wsX40)
def wsX0_init_r1 : List Cond := [Cond.methodLink RX0 3 objectInit, Cond.instanceMethod objectInit, Cond.code objectInit ⟨#[0xb1]⟩ 1 none, Cond.arrayClass .int, Cond.fieldLink RX0 9 "PegClerks$Clerk" "settings" "[I", Cond.classLink RX0 15 RX1, Cond.instantiable RX1 4, Cond.initialized RX1, Cond.fieldLink RX0 18 "PegClerks$Clerk" "drum" "LPegClerks$Drum;", Cond.classLink RX0 22 RX4, Cond.instantiable RX4 4, Cond.initialized RX4, Cond.fieldLink RX0 25 "PegClerks$Clerk" "stamps" "LPegClerks$Stamps;", Cond.instanceMethod yX1_init, Cond.code yX1_init cX1_init 1 none, Cond.methodLink RX1 3 objectInit, Cond.fieldLink RX1 9 "PegClerks$Drum" "rows" "[I", Cond.fieldLink RX1 15 "PegClerks$Drum" "stampings" "[I", Cond.instanceMethod yX4_init, Cond.code yX4_init cX4_init 1 none, Cond.methodLink RX4 3 objectInit, Cond.fieldLink RX4 9 "PegClerks$Stamps" "inks" "[I", Cond.fieldLink RX4 15 "PegClerks$Stamps" "marks" "[I", Cond.fieldLink RX4 18 "PegClerks$Stamps" "dryFalls" "[I"]
def wsX0_init_r2 : List Cond := [Cond.fieldLink RX4 21 "PegClerks$Stamps" "spoilings" "[I"]
def wsX0_init : List Cond := .code yX0_init cX0_init 1 none :: ((wsX0_init_r1 ++ wsX0_init_r2) ++ wsX00 ++ wsX10 ++ wsX40)
def wsX1_copyFrom : List Cond := .code yX1_copyFrom cX1_copyFrom 2 none :: ([.fieldLink RX1 9 "PegClerks$Drum" "rows" "[I", .methodLink RX1 18 arraycopyName, .native arraycopyName, .static arraycopyName, .initialized "java/lang/System", .fieldLink RX1 15 "PegClerks$Drum" "stampings" "[I", .fieldLink RX1 24 "PegClerks$Drum" "at" "I", .fieldLink RX1 28 "PegClerks$Drum" "fallenOut" "I"] ++ wsX10)
def wsX4_copyFrom : List Cond := .code yX4_copyFrom cX4_copyFrom 2 none :: ([.fieldLink RX4 9 "PegClerks$Stamps" "inks" "[I", .methodLink RX4 24 arraycopyName, .native arraycopyName, .static arraycopyName, .initialized "java/lang/System", .fieldLink RX4 15 "PegClerks$Stamps" "marks" "[I", .fieldLink RX4 18 "PegClerks$Stamps" "dryFalls" "[I", .fieldLink RX4 21 "PegClerks$Stamps" "spoilings" "[I"] ++ wsX40)
def wsX0_copyFrom_r1 : List Cond := [Cond.fieldLink RX0 9 "PegClerks$Clerk" "settings" "[I", Cond.methodLink RX0 29 arraycopyName, Cond.native arraycopyName, Cond.static arraycopyName, Cond.initialized "java/lang/System", Cond.fieldLink RX0 18 "PegClerks$Clerk" "drum" "LPegClerks$Drum;", Cond.fieldLink RX0 25 "PegClerks$Clerk" "stamps" "LPegClerks$Stamps;", Cond.fieldLink RX0 42 "PegClerks$Clerk" "jammed" "Z", Cond.fieldLink RX0 46 "PegClerks$Clerk" "order" "I", Cond.fieldLink RX0 50 "PegClerks$Clerk" "formStamps" "I", Cond.fieldLink RX0 53 "PegClerks$Clerk" "formSpoiled" "Z", Cond.fieldLink RX0 56 "PegClerks$Clerk" "formSteps" "I", Cond.fieldLink RX0 59 "PegClerks$Clerk" "steps" "I", Cond.fieldLink RX0 62 "PegClerks$Clerk" "rightForms" "I", Cond.fieldLink RX0 65 "PegClerks$Clerk" "wrongForms" "I", Cond.fieldLink RX0 68 "PegClerks$Clerk" "spoiledForms" "I", Cond.fieldLink RX0 71 "PegClerks$Clerk" "jams" "I", Cond.methodLink RX0 35 yX1_copyFrom, Cond.instanceMethod yX1_copyFrom, Cond.selects RX1 yX1_copyFrom yX1_copyFrom, Cond.initialized RX1, Cond.code yX1_copyFrom cX1_copyFrom 2 none, Cond.fieldLink RX1 9 "PegClerks$Drum" "rows" "[I", Cond.methodLink RX1 18 arraycopyName]
def wsX0_copyFrom_r2 : List Cond := [Cond.fieldLink RX1 15 "PegClerks$Drum" "stampings" "[I", Cond.fieldLink RX1 24 "PegClerks$Drum" "at" "I", Cond.fieldLink RX1 28 "PegClerks$Drum" "fallenOut" "I", Cond.methodLink RX0 39 yX4_copyFrom, Cond.instanceMethod yX4_copyFrom, Cond.selects RX4 yX4_copyFrom yX4_copyFrom, Cond.initialized RX4, Cond.code yX4_copyFrom cX4_copyFrom 2 none, Cond.fieldLink RX4 9 "PegClerks$Stamps" "inks" "[I", Cond.methodLink RX4 24 arraycopyName, Cond.fieldLink RX4 15 "PegClerks$Stamps" "marks" "[I", Cond.fieldLink RX4 18 "PegClerks$Stamps" "dryFalls" "[I", Cond.fieldLink RX4 21 "PegClerks$Stamps" "spoilings" "[I"]
def wsX0_copyFrom : List Cond := .code yX0_copyFrom cX0_copyFrom 2 none :: ((wsX0_copyFrom_r1 ++ wsX0_copyFrom_r2) ++ wsX00 ++ wsX10 ++ wsX40)
def wsJ6_bitCount_0f7a4 : List Cond := .code yJ6_bitCount_0f7a4 cJ6_bitCount_0f7a4 1 (some .int) :: ([.constant RJ6 265 (1431655765), .constant RJ6 266 (858993459), .constant RJ6 267 (252645135)])
def wsX1_pegsInRow : List Cond := .code yX1_pegsInRow cX1_pegsInRow 2 (some .int) :: ([.fieldLink RX1 9 "PegClerks$Drum" "rows" "[I", .methodLink RX1 35 yJ6_bitCount_0f7a4, .static yJ6_bitCount_0f7a4, .initialized RJ6, .code yJ6_bitCount_0f7a4 cJ6_bitCount_0f7a4 1 (some .int), .constant RJ6 265 (1431655765), .constant RJ6 266 (858993459), .constant RJ6 267 (252645135)] ++ wsX10)
def wsX0_wouldJamAt : List Cond := .code yX0_wouldJamAt cX0_wouldJamAt 2 (some .boolean) :: ([.fieldLink RX0 18 "PegClerks$Clerk" "drum" "LPegClerks$Drum;", .fieldLink RX0 9 "PegClerks$Clerk" "settings" "[I", .methodLink RX0 74 yX1_pegsInRow, .instanceMethod yX1_pegsInRow, .selects RX1 yX1_pegsInRow yX1_pegsInRow, .initialized RX1, .code yX1_pegsInRow cX1_pegsInRow 2 (some .int), .fieldLink RX1 9 "PegClerks$Drum" "rows" "[I", .methodLink RX1 35 yJ6_bitCount_0f7a4, .static yJ6_bitCount_0f7a4, .initialized RJ6, .code yJ6_bitCount_0f7a4 cJ6_bitCount_0f7a4 1 (some .int), .constant RJ6 265 (1431655765), .constant RJ6 266 (858993459), .constant RJ6 267 (252645135)] ++ wsX00 ++ wsX10)
def wsX4_leavesMark : List Cond := .code yX4_leavesMark cX4_leavesMark 3 (some .boolean) :: ([.fieldLink RX4 9 "PegClerks$Stamps" "inks" "[I", .fieldLink RX4 18 "PegClerks$Stamps" "dryFalls" "[I", .fieldLink RX4 15 "PegClerks$Stamps" "marks" "[I"] ++ wsX40)
def wsX0_letStampFall : List Cond := .code yX0_letStampFall cX0_letStampFall 2 none :: ([.fieldLink RX0 50 "PegClerks$Clerk" "formStamps" "I", .fieldLink RX0 53 "PegClerks$Clerk" "formSpoiled" "Z", .fieldLink RX0 25 "PegClerks$Clerk" "stamps" "LPegClerks$Stamps;", .fieldLink RX0 109 "PegClerks$Stamps" "spoilings" "[I", .fieldLink RX0 9 "PegClerks$Clerk" "settings" "[I", .methodLink RX0 112 yX4_leavesMark, .instanceMethod yX4_leavesMark, .selects RX4 yX4_leavesMark yX4_leavesMark, .initialized RX4, .code yX4_leavesMark cX4_leavesMark 3 (some .boolean), .fieldLink RX4 9 "PegClerks$Stamps" "inks" "[I", .fieldLink RX4 18 "PegClerks$Stamps" "dryFalls" "[I", .fieldLink RX4 15 "PegClerks$Stamps" "marks" "[I"] ++ wsX00 ++ wsX40)
def wsX1_wearPeg : List Cond := .code yX1_wearPeg cX1_wearPeg 5 none :: ([.fieldLink RX1 15 "PegClerks$Drum" "stampings" "[I", .fieldLink RX1 9 "PegClerks$Drum" "rows" "[I", .fieldLink RX1 28 "PegClerks$Drum" "fallenOut" "I"] ++ wsX10)
def wsX0_letStampsFall_r1 : List Cond := [Cond.fieldLink RX0 18 "PegClerks$Clerk" "drum" "LPegClerks$Drum;", Cond.fieldLink RX0 82 "PegClerks$Drum" "at" "I", Cond.fieldLink RX0 9 "PegClerks$Clerk" "settings" "[I", Cond.methodLink RX0 102 yX0_letStampFall, Cond.instanceMethod yX0_letStampFall, Cond.selects RX0 yX0_letStampFall yX0_letStampFall, Cond.initialized RX0, Cond.code yX0_letStampFall cX0_letStampFall 2 none, Cond.fieldLink RX0 50 "PegClerks$Clerk" "formStamps" "I", Cond.fieldLink RX0 53 "PegClerks$Clerk" "formSpoiled" "Z", Cond.fieldLink RX0 25 "PegClerks$Clerk" "stamps" "LPegClerks$Stamps;", Cond.fieldLink RX0 109 "PegClerks$Stamps" "spoilings" "[I", Cond.methodLink RX0 112 yX4_leavesMark, Cond.instanceMethod yX4_leavesMark, Cond.selects RX4 yX4_leavesMark yX4_leavesMark, Cond.initialized RX4, Cond.code yX4_leavesMark cX4_leavesMark 3 (some .boolean), Cond.fieldLink RX4 9 "PegClerks$Stamps" "inks" "[I", Cond.fieldLink RX4 18 "PegClerks$Stamps" "dryFalls" "[I", Cond.fieldLink RX4 15 "PegClerks$Stamps" "marks" "[I", Cond.methodLink RX0 105 yX1_wearPeg, Cond.instanceMethod yX1_wearPeg, Cond.selects RX1 yX1_wearPeg yX1_wearPeg, Cond.initialized RX1]
def wsX0_letStampsFall_r2 : List Cond := [Cond.code yX1_wearPeg cX1_wearPeg 5 none, Cond.fieldLink RX1 15 "PegClerks$Drum" "stampings" "[I", Cond.fieldLink RX1 9 "PegClerks$Drum" "rows" "[I", Cond.fieldLink RX1 28 "PegClerks$Drum" "fallenOut" "I"]
def wsX0_letStampsFall : List Cond := .code yX0_letStampsFall cX0_letStampsFall 3 none :: ((wsX0_letStampsFall_r1 ++ wsX0_letStampsFall_r2) ++ wsX00 ++ wsX10 ++ wsX40)
def wsX1_rowBehind : List Cond := .code yX1_rowBehind cX1_rowBehind 1 (some .int) :: ([])
def wsX1_goOn : List Cond := .code yX1_goOn cX1_goOn 1 none :: ([.fieldLink RX1 24 "PegClerks$Drum" "at" "I", .methodLink RX1 31 yX1_rowBehind, .static yX1_rowBehind, .initialized RX1, .code yX1_rowBehind cX1_rowBehind 1 (some .int)] ++ wsX10)
def wsX0_layForm : List Cond := .code yX0_layForm cX0_layForm 1 none :: ([.fieldLink RX0 50 "PegClerks$Clerk" "formStamps" "I", .fieldLink RX0 53 "PegClerks$Clerk" "formSpoiled" "Z", .fieldLink RX0 56 "PegClerks$Clerk" "formSteps" "I"] ++ wsX00)
def wsX0_finishForm : List Cond := .code yX0_finishForm cX0_finishForm 1 none :: ([.fieldLink RX0 53 "PegClerks$Clerk" "formSpoiled" "Z", .fieldLink RX0 68 "PegClerks$Clerk" "spoiledForms" "I", .fieldLink RX0 50 "PegClerks$Clerk" "formStamps" "I", .fieldLink RX0 46 "PegClerks$Clerk" "order" "I", .fieldLink RX0 62 "PegClerks$Clerk" "rightForms" "I", .fieldLink RX0 65 "PegClerks$Clerk" "wrongForms" "I", .methodLink RX0 116 yX0_layForm, .instanceMethod yX0_layForm, .selects RX0 yX0_layForm yX0_layForm, .initialized RX0, .code yX0_layForm cX0_layForm 1 none, .fieldLink RX0 56 "PegClerks$Clerk" "formSteps" "I"] ++ wsX00)
def wsX0_makeOneStep_r1 : List Cond := [Cond.fieldLink RX0 42 "PegClerks$Clerk" "jammed" "Z", Cond.fieldLink RX0 18 "PegClerks$Clerk" "drum" "LPegClerks$Drum;", Cond.fieldLink RX0 82 "PegClerks$Drum" "at" "I", Cond.fieldLink RX0 71 "PegClerks$Clerk" "jams" "I", Cond.fieldLink RX0 89 "PegClerks$Drum" "rows" "[I", Cond.fieldLink RX0 59 "PegClerks$Clerk" "steps" "I", Cond.fieldLink RX0 56 "PegClerks$Clerk" "formSteps" "I", Cond.fieldLink RX0 9 "PegClerks$Clerk" "settings" "[I", Cond.methodLink RX0 85 yX0_wouldJamAt, Cond.instanceMethod yX0_wouldJamAt, Cond.selects RX0 yX0_wouldJamAt yX0_wouldJamAt, Cond.initialized RX0, Cond.code yX0_wouldJamAt cX0_wouldJamAt 2 (some .boolean), Cond.methodLink RX0 74 yX1_pegsInRow, Cond.instanceMethod yX1_pegsInRow, Cond.selects RX1 yX1_pegsInRow yX1_pegsInRow, Cond.initialized RX1, Cond.code yX1_pegsInRow cX1_pegsInRow 2 (some .int), Cond.fieldLink RX1 9 "PegClerks$Drum" "rows" "[I", Cond.methodLink RX1 35 yJ6_bitCount_0f7a4, Cond.static yJ6_bitCount_0f7a4, Cond.initialized RJ6, Cond.code yJ6_bitCount_0f7a4 cJ6_bitCount_0f7a4 1 (some .int), Cond.constant RJ6 265 (1431655765)]
def wsX0_makeOneStep_r2 : List Cond := [Cond.constant RJ6 266 (858993459), Cond.constant RJ6 267 (252645135), Cond.methodLink RX0 92 yX0_letStampsFall, Cond.instanceMethod yX0_letStampsFall, Cond.selects RX0 yX0_letStampsFall yX0_letStampsFall, Cond.code yX0_letStampsFall cX0_letStampsFall 3 none, Cond.methodLink RX0 102 yX0_letStampFall, Cond.instanceMethod yX0_letStampFall, Cond.selects RX0 yX0_letStampFall yX0_letStampFall, Cond.code yX0_letStampFall cX0_letStampFall 2 none, Cond.fieldLink RX0 50 "PegClerks$Clerk" "formStamps" "I", Cond.fieldLink RX0 53 "PegClerks$Clerk" "formSpoiled" "Z", Cond.fieldLink RX0 25 "PegClerks$Clerk" "stamps" "LPegClerks$Stamps;", Cond.fieldLink RX0 109 "PegClerks$Stamps" "spoilings" "[I", Cond.methodLink RX0 112 yX4_leavesMark, Cond.instanceMethod yX4_leavesMark, Cond.selects RX4 yX4_leavesMark yX4_leavesMark, Cond.initialized RX4, Cond.code yX4_leavesMark cX4_leavesMark 3 (some .boolean), Cond.fieldLink RX4 9 "PegClerks$Stamps" "inks" "[I", Cond.fieldLink RX4 18 "PegClerks$Stamps" "dryFalls" "[I", Cond.fieldLink RX4 15 "PegClerks$Stamps" "marks" "[I", Cond.methodLink RX0 105 yX1_wearPeg, Cond.instanceMethod yX1_wearPeg]
def wsX0_makeOneStep_r3 : List Cond := [Cond.selects RX1 yX1_wearPeg yX1_wearPeg, Cond.code yX1_wearPeg cX1_wearPeg 5 none, Cond.fieldLink RX1 15 "PegClerks$Drum" "stampings" "[I", Cond.fieldLink RX1 28 "PegClerks$Drum" "fallenOut" "I", Cond.methodLink RX0 96 yX1_goOn, Cond.instanceMethod yX1_goOn, Cond.selects RX1 yX1_goOn yX1_goOn, Cond.code yX1_goOn cX1_goOn 1 none, Cond.fieldLink RX1 24 "PegClerks$Drum" "at" "I", Cond.methodLink RX1 31 yX1_rowBehind, Cond.static yX1_rowBehind, Cond.code yX1_rowBehind cX1_rowBehind 1 (some .int), Cond.methodLink RX0 99 yX0_finishForm, Cond.instanceMethod yX0_finishForm, Cond.selects RX0 yX0_finishForm yX0_finishForm, Cond.code yX0_finishForm cX0_finishForm 1 none, Cond.fieldLink RX0 68 "PegClerks$Clerk" "spoiledForms" "I", Cond.fieldLink RX0 46 "PegClerks$Clerk" "order" "I", Cond.fieldLink RX0 62 "PegClerks$Clerk" "rightForms" "I", Cond.fieldLink RX0 65 "PegClerks$Clerk" "wrongForms" "I", Cond.methodLink RX0 116 yX0_layForm, Cond.instanceMethod yX0_layForm, Cond.selects RX0 yX0_layForm yX0_layForm, Cond.code yX0_layForm cX0_layForm 1 none]
def wsX0_makeOneStep : List Cond := .code yX0_makeOneStep cX0_makeOneStep 1 (some .boolean) :: ((wsX0_makeOneStep_r1 ++ (wsX0_makeOneStep_r2 ++ wsX0_makeOneStep_r3)) ++ wsX00 ++ wsX10 ++ wsX40)
def wsX0_makeSteps_r1 : List Cond := [Cond.methodLink RX0 78 yX0_makeOneStep, Cond.instanceMethod yX0_makeOneStep, Cond.selects RX0 yX0_makeOneStep yX0_makeOneStep, Cond.initialized RX0, Cond.code yX0_makeOneStep cX0_makeOneStep 1 (some .boolean), Cond.fieldLink RX0 42 "PegClerks$Clerk" "jammed" "Z", Cond.fieldLink RX0 18 "PegClerks$Clerk" "drum" "LPegClerks$Drum;", Cond.fieldLink RX0 82 "PegClerks$Drum" "at" "I", Cond.fieldLink RX0 71 "PegClerks$Clerk" "jams" "I", Cond.fieldLink RX0 89 "PegClerks$Drum" "rows" "[I", Cond.fieldLink RX0 59 "PegClerks$Clerk" "steps" "I", Cond.fieldLink RX0 56 "PegClerks$Clerk" "formSteps" "I", Cond.fieldLink RX0 9 "PegClerks$Clerk" "settings" "[I", Cond.methodLink RX0 85 yX0_wouldJamAt, Cond.instanceMethod yX0_wouldJamAt, Cond.selects RX0 yX0_wouldJamAt yX0_wouldJamAt, Cond.code yX0_wouldJamAt cX0_wouldJamAt 2 (some .boolean), Cond.methodLink RX0 74 yX1_pegsInRow, Cond.instanceMethod yX1_pegsInRow, Cond.selects RX1 yX1_pegsInRow yX1_pegsInRow, Cond.initialized RX1, Cond.code yX1_pegsInRow cX1_pegsInRow 2 (some .int), Cond.fieldLink RX1 9 "PegClerks$Drum" "rows" "[I", Cond.methodLink RX1 35 yJ6_bitCount_0f7a4]
def wsX0_makeSteps_r2 : List Cond := [Cond.static yJ6_bitCount_0f7a4, Cond.initialized RJ6, Cond.code yJ6_bitCount_0f7a4 cJ6_bitCount_0f7a4 1 (some .int), Cond.constant RJ6 265 (1431655765), Cond.constant RJ6 266 (858993459), Cond.constant RJ6 267 (252645135), Cond.methodLink RX0 92 yX0_letStampsFall, Cond.instanceMethod yX0_letStampsFall, Cond.selects RX0 yX0_letStampsFall yX0_letStampsFall, Cond.code yX0_letStampsFall cX0_letStampsFall 3 none, Cond.methodLink RX0 102 yX0_letStampFall, Cond.instanceMethod yX0_letStampFall, Cond.selects RX0 yX0_letStampFall yX0_letStampFall, Cond.code yX0_letStampFall cX0_letStampFall 2 none, Cond.fieldLink RX0 50 "PegClerks$Clerk" "formStamps" "I", Cond.fieldLink RX0 53 "PegClerks$Clerk" "formSpoiled" "Z", Cond.fieldLink RX0 25 "PegClerks$Clerk" "stamps" "LPegClerks$Stamps;", Cond.fieldLink RX0 109 "PegClerks$Stamps" "spoilings" "[I", Cond.methodLink RX0 112 yX4_leavesMark, Cond.instanceMethod yX4_leavesMark, Cond.selects RX4 yX4_leavesMark yX4_leavesMark, Cond.initialized RX4, Cond.code yX4_leavesMark cX4_leavesMark 3 (some .boolean), Cond.fieldLink RX4 9 "PegClerks$Stamps" "inks" "[I"]
def wsX0_makeSteps_r3 : List Cond := [Cond.fieldLink RX4 18 "PegClerks$Stamps" "dryFalls" "[I", Cond.fieldLink RX4 15 "PegClerks$Stamps" "marks" "[I", Cond.methodLink RX0 105 yX1_wearPeg, Cond.instanceMethod yX1_wearPeg, Cond.selects RX1 yX1_wearPeg yX1_wearPeg, Cond.code yX1_wearPeg cX1_wearPeg 5 none, Cond.fieldLink RX1 15 "PegClerks$Drum" "stampings" "[I", Cond.fieldLink RX1 28 "PegClerks$Drum" "fallenOut" "I", Cond.methodLink RX0 96 yX1_goOn, Cond.instanceMethod yX1_goOn, Cond.selects RX1 yX1_goOn yX1_goOn, Cond.code yX1_goOn cX1_goOn 1 none, Cond.fieldLink RX1 24 "PegClerks$Drum" "at" "I", Cond.methodLink RX1 31 yX1_rowBehind, Cond.static yX1_rowBehind, Cond.code yX1_rowBehind cX1_rowBehind 1 (some .int), Cond.methodLink RX0 99 yX0_finishForm, Cond.instanceMethod yX0_finishForm, Cond.selects RX0 yX0_finishForm yX0_finishForm, Cond.code yX0_finishForm cX0_finishForm 1 none, Cond.fieldLink RX0 68 "PegClerks$Clerk" "spoiledForms" "I", Cond.fieldLink RX0 46 "PegClerks$Clerk" "order" "I", Cond.fieldLink RX0 62 "PegClerks$Clerk" "rightForms" "I", Cond.fieldLink RX0 65 "PegClerks$Clerk" "wrongForms" "I"]
def wsX0_makeSteps_r4 : List Cond := [Cond.methodLink RX0 116 yX0_layForm, Cond.instanceMethod yX0_layForm, Cond.selects RX0 yX0_layForm yX0_layForm, Cond.code yX0_layForm cX0_layForm 1 none]
def wsX0_makeSteps : List Cond := .code yX0_makeSteps cX0_makeSteps 3 (some .int) :: ((wsX0_makeSteps_r1 ++ (wsX0_makeSteps_r2 ++ (wsX0_makeSteps_r3 ++ wsX0_makeSteps_r4))) ++ wsX00 ++ wsX10 ++ wsX40)
def wsX1_hasPeg : List Cond := .code yX1_hasPeg cX1_hasPeg 3 (some .boolean) :: ([.fieldLink RX1 9 "PegClerks$Drum" "rows" "[I"] ++ wsX10)
def wsX1_pegsAtPlace : List Cond := .code yX1_pegsAtPlace cX1_pegsAtPlace 4 (some .int) :: ([.methodLink RX1 40 yX1_hasPeg, .instanceMethod yX1_hasPeg, .selects RX1 yX1_hasPeg yX1_hasPeg, .initialized RX1, .code yX1_hasPeg cX1_hasPeg 3 (some .boolean), .fieldLink RX1 9 "PegClerks$Drum" "rows" "[I"] ++ wsX10)
def wsX1_allPegs : List Cond := .code yX1_allPegs cX1_allPegs 3 (some .int) :: ([.methodLink RX1 44 yX1_pegsInRow, .instanceMethod yX1_pegsInRow, .selects RX1 yX1_pegsInRow yX1_pegsInRow, .initialized RX1, .code yX1_pegsInRow cX1_pegsInRow 2 (some .int), .fieldLink RX1 9 "PegClerks$Drum" "rows" "[I", .methodLink RX1 35 yJ6_bitCount_0f7a4, .static yJ6_bitCount_0f7a4, .initialized RJ6, .code yJ6_bitCount_0f7a4 cJ6_bitCount_0f7a4 1 (some .int), .constant RJ6 265 (1431655765), .constant RJ6 266 (858993459), .constant RJ6 267 (252645135)] ++ wsX10)
def wsX1_giveRow : List Cond := .code yX1_giveRow cX1_giveRow 4 none :: ([.fieldLink RX1 15 "PegClerks$Drum" "stampings" "[I", .fieldLink RX1 9 "PegClerks$Drum" "rows" "[I", .methodLink RX1 40 yX1_hasPeg, .instanceMethod yX1_hasPeg, .selects RX1 yX1_hasPeg yX1_hasPeg, .initialized RX1, .code yX1_hasPeg cX1_hasPeg 3 (some .boolean)] ++ wsX10)
def wsX2_init_r1 : List Cond := [Cond.methodLink RX2 1 objectInit, Cond.instanceMethod objectInit, Cond.code objectInit ⟨#[0xb1]⟩ 1 none, Cond.classLink RX2 7 RX0, Cond.instantiable RX0 13, Cond.initialized RX0, Cond.fieldLink RX2 10 "PegClerks$History" "states" "[LPegClerks$Clerk;", Cond.instanceMethod yX0_init, Cond.code yX0_init cX0_init 1 none, Cond.methodLink RX0 3 objectInit, Cond.arrayClass .int, Cond.fieldLink RX0 9 "PegClerks$Clerk" "settings" "[I", Cond.classLink RX0 15 RX1, Cond.instantiable RX1 4, Cond.initialized RX1, Cond.fieldLink RX0 18 "PegClerks$Clerk" "drum" "LPegClerks$Drum;", Cond.classLink RX0 22 RX4, Cond.instantiable RX4 4, Cond.initialized RX4, Cond.fieldLink RX0 25 "PegClerks$Clerk" "stamps" "LPegClerks$Stamps;", Cond.instanceMethod yX1_init, Cond.code yX1_init cX1_init 1 none, Cond.methodLink RX1 3 objectInit, Cond.fieldLink RX1 9 "PegClerks$Drum" "rows" "[I"]
def wsX2_init_r2 : List Cond := [Cond.fieldLink RX1 15 "PegClerks$Drum" "stampings" "[I", Cond.instanceMethod yX4_init, Cond.code yX4_init cX4_init 1 none, Cond.methodLink RX4 3 objectInit, Cond.fieldLink RX4 9 "PegClerks$Stamps" "inks" "[I", Cond.fieldLink RX4 15 "PegClerks$Stamps" "marks" "[I", Cond.fieldLink RX4 18 "PegClerks$Stamps" "dryFalls" "[I", Cond.fieldLink RX4 21 "PegClerks$Stamps" "spoilings" "[I"]
def wsX2_init : List Cond := .code yX2_init cX2_init 1 none :: ((wsX2_init_r1 ++ wsX2_init_r2) ++ wsX00 ++ wsX20 ++ wsX10 ++ wsX40)
def wsX2_keep_r1 : List Cond := [Cond.fieldLink RX2 10 "PegClerks$History" "states" "[LPegClerks$Clerk;", Cond.fieldLink RX2 16 "PegClerks$History" "next" "I", Cond.fieldLink RX2 24 "PegClerks$History" "kept" "I", Cond.methodLink RX2 27 Lib.Math.min.name, Cond.static Lib.Math.min.name, Cond.initialized "java/lang/Math", Cond.code Lib.Math.min.name Lib.Math.min.code 2 (some .int), Cond.methodLink RX2 20 yX0_copyFrom, Cond.instanceMethod yX0_copyFrom, Cond.selects RX0 yX0_copyFrom yX0_copyFrom, Cond.initialized RX0, Cond.code yX0_copyFrom cX0_copyFrom 2 none, Cond.fieldLink RX0 9 "PegClerks$Clerk" "settings" "[I", Cond.methodLink RX0 29 arraycopyName, Cond.native arraycopyName, Cond.static arraycopyName, Cond.initialized "java/lang/System", Cond.fieldLink RX0 18 "PegClerks$Clerk" "drum" "LPegClerks$Drum;", Cond.fieldLink RX0 25 "PegClerks$Clerk" "stamps" "LPegClerks$Stamps;", Cond.fieldLink RX0 42 "PegClerks$Clerk" "jammed" "Z", Cond.fieldLink RX0 46 "PegClerks$Clerk" "order" "I", Cond.fieldLink RX0 50 "PegClerks$Clerk" "formStamps" "I", Cond.fieldLink RX0 53 "PegClerks$Clerk" "formSpoiled" "Z", Cond.fieldLink RX0 56 "PegClerks$Clerk" "formSteps" "I"]
def wsX2_keep_r2 : List Cond := [Cond.fieldLink RX0 59 "PegClerks$Clerk" "steps" "I", Cond.fieldLink RX0 62 "PegClerks$Clerk" "rightForms" "I", Cond.fieldLink RX0 65 "PegClerks$Clerk" "wrongForms" "I", Cond.fieldLink RX0 68 "PegClerks$Clerk" "spoiledForms" "I", Cond.fieldLink RX0 71 "PegClerks$Clerk" "jams" "I", Cond.methodLink RX0 35 yX1_copyFrom, Cond.instanceMethod yX1_copyFrom, Cond.selects RX1 yX1_copyFrom yX1_copyFrom, Cond.initialized RX1, Cond.code yX1_copyFrom cX1_copyFrom 2 none, Cond.fieldLink RX1 9 "PegClerks$Drum" "rows" "[I", Cond.methodLink RX1 18 arraycopyName, Cond.fieldLink RX1 15 "PegClerks$Drum" "stampings" "[I", Cond.fieldLink RX1 24 "PegClerks$Drum" "at" "I", Cond.fieldLink RX1 28 "PegClerks$Drum" "fallenOut" "I", Cond.methodLink RX0 39 yX4_copyFrom, Cond.instanceMethod yX4_copyFrom, Cond.selects RX4 yX4_copyFrom yX4_copyFrom, Cond.initialized RX4, Cond.code yX4_copyFrom cX4_copyFrom 2 none, Cond.fieldLink RX4 9 "PegClerks$Stamps" "inks" "[I", Cond.methodLink RX4 24 arraycopyName, Cond.fieldLink RX4 15 "PegClerks$Stamps" "marks" "[I", Cond.fieldLink RX4 18 "PegClerks$Stamps" "dryFalls" "[I"]
def wsX2_keep_r3 : List Cond := [Cond.fieldLink RX4 21 "PegClerks$Stamps" "spoilings" "[I"]
def wsX2_keep : List Cond := .code yX2_keep cX2_keep 2 none :: ((wsX2_keep_r1 ++ (wsX2_keep_r2 ++ wsX2_keep_r3)) ++ wsX20 ++ wsX00 ++ wsX10 ++ wsX40)
def wsX2_takeBack_r1 : List Cond := [Cond.fieldLink RX2 16 "PegClerks$History" "next" "I", Cond.fieldLink RX2 24 "PegClerks$History" "kept" "I", Cond.fieldLink RX2 10 "PegClerks$History" "states" "[LPegClerks$Clerk;", Cond.methodLink RX2 20 yX0_copyFrom, Cond.instanceMethod yX0_copyFrom, Cond.selects RX0 yX0_copyFrom yX0_copyFrom, Cond.initialized RX0, Cond.code yX0_copyFrom cX0_copyFrom 2 none, Cond.fieldLink RX0 9 "PegClerks$Clerk" "settings" "[I", Cond.methodLink RX0 29 arraycopyName, Cond.native arraycopyName, Cond.static arraycopyName, Cond.initialized "java/lang/System", Cond.fieldLink RX0 18 "PegClerks$Clerk" "drum" "LPegClerks$Drum;", Cond.fieldLink RX0 25 "PegClerks$Clerk" "stamps" "LPegClerks$Stamps;", Cond.fieldLink RX0 42 "PegClerks$Clerk" "jammed" "Z", Cond.fieldLink RX0 46 "PegClerks$Clerk" "order" "I", Cond.fieldLink RX0 50 "PegClerks$Clerk" "formStamps" "I", Cond.fieldLink RX0 53 "PegClerks$Clerk" "formSpoiled" "Z", Cond.fieldLink RX0 56 "PegClerks$Clerk" "formSteps" "I", Cond.fieldLink RX0 59 "PegClerks$Clerk" "steps" "I", Cond.fieldLink RX0 62 "PegClerks$Clerk" "rightForms" "I", Cond.fieldLink RX0 65 "PegClerks$Clerk" "wrongForms" "I", Cond.fieldLink RX0 68 "PegClerks$Clerk" "spoiledForms" "I"]
def wsX2_takeBack_r2 : List Cond := [Cond.fieldLink RX0 71 "PegClerks$Clerk" "jams" "I", Cond.methodLink RX0 35 yX1_copyFrom, Cond.instanceMethod yX1_copyFrom, Cond.selects RX1 yX1_copyFrom yX1_copyFrom, Cond.initialized RX1, Cond.code yX1_copyFrom cX1_copyFrom 2 none, Cond.fieldLink RX1 9 "PegClerks$Drum" "rows" "[I", Cond.methodLink RX1 18 arraycopyName, Cond.fieldLink RX1 15 "PegClerks$Drum" "stampings" "[I", Cond.fieldLink RX1 24 "PegClerks$Drum" "at" "I", Cond.fieldLink RX1 28 "PegClerks$Drum" "fallenOut" "I", Cond.methodLink RX0 39 yX4_copyFrom, Cond.instanceMethod yX4_copyFrom, Cond.selects RX4 yX4_copyFrom yX4_copyFrom, Cond.initialized RX4, Cond.code yX4_copyFrom cX4_copyFrom 2 none, Cond.fieldLink RX4 9 "PegClerks$Stamps" "inks" "[I", Cond.methodLink RX4 24 arraycopyName, Cond.fieldLink RX4 15 "PegClerks$Stamps" "marks" "[I", Cond.fieldLink RX4 18 "PegClerks$Stamps" "dryFalls" "[I", Cond.fieldLink RX4 21 "PegClerks$Stamps" "spoilings" "[I"]
def wsX2_takeBack : List Cond := .code yX2_takeBack cX2_takeBack 2 none :: ((wsX2_takeBack_r1 ++ wsX2_takeBack_r2) ++ wsX20 ++ wsX00 ++ wsX10 ++ wsX40)
def wsX3_init : List Cond := .code yX3_init cX3_init 1 none :: ([.methodLink RX3 3 objectInit, .instanceMethod objectInit, .code objectInit ⟨#[0xb1]⟩ 1 none, .arrayClass .char, .fieldLink RX3 11 "PegClerks$Pad" "signs" "[C"] ++ wsX30)
def wsX3_charactersIn : List Cond := .code yX3_charactersIn cX3_charactersIn 6 (some .int) :: ([.constantLong RX3 15 (255)])
def wsX3_append : List Cond := .code yX3_append cX3_append 5 none :: ([.fieldLink RX3 11 "PegClerks$Pad" "signs" "[C", .fieldLink RX3 17 "PegClerks$Pad" "length" "I", .constantLong RX3 15 (255)] ++ wsX30)
def wsX3_empty : List Cond := .code yX3_empty cX3_empty 1 none :: ([.fieldLink RX3 17 "PegClerks$Pad" "length" "I"] ++ wsX30)
def wsX5_isPlace : List Cond := .code yX5_isPlace cX5_isPlace 1 (some .boolean) :: ([])
def wsX3_dueBehindPlaces : List Cond := .code yX3_dueBehindPlaces cX3_dueBehindPlaces 3 (some .int) :: ([.static yX5_isPlace, .initialized RX5, .code yX5_isPlace cX5_isPlace 1 (some .boolean)])
def wsX3_dueBehind : List Cond := .code yX3_dueBehind cX3_dueBehind 2 (some .int) :: ([.methodLink RX3 25 yX3_dueBehindPlaces, .static yX3_dueBehindPlaces, .initialized RX3, .code yX3_dueBehindPlaces cX3_dueBehindPlaces 3 (some .int), .static yX5_isPlace, .initialized RX5, .code yX5_isPlace cX5_isPlace 1 (some .boolean)])
def wsX3_firstFault : List Cond := .code yX3_firstFault cX3_firstFault 3 (some .int) :: ([.fieldLink RX3 17 "PegClerks$Pad" "length" "I", .fieldLink RX3 11 "PegClerks$Pad" "signs" "[C", .methodLink RX3 21 yX3_dueBehind, .static yX3_dueBehind, .initialized RX3, .code yX3_dueBehind cX3_dueBehind 2 (some .int), .methodLink RX3 25 yX3_dueBehindPlaces, .static yX3_dueBehindPlaces, .code yX3_dueBehindPlaces cX3_dueBehindPlaces 3 (some .int), .static yX5_isPlace, .initialized RX5, .code yX5_isPlace cX5_isPlace 1 (some .boolean)] ++ wsX30)
def wsX5_isRow : List Cond := .code yX5_isRow cX5_isRow 1 (some .boolean) :: ([])
def wsX3_changeRows : List Cond := .code yX3_changeRows cX3_changeRows 6 none :: ([.fieldLink RX3 17 "PegClerks$Pad" "length" "I", .fieldLink RX3 11 "PegClerks$Pad" "signs" "[C", .static yX5_isRow, .initialized RX5, .code yX5_isRow cX5_isRow 1 (some .boolean), .methodLink RX3 35 yX1_giveRow, .instanceMethod yX1_giveRow, .selects RX1 yX1_giveRow yX1_giveRow, .initialized RX1, .code yX1_giveRow cX1_giveRow 4 none, .fieldLink RX1 15 "PegClerks$Drum" "stampings" "[I", .fieldLink RX1 9 "PegClerks$Drum" "rows" "[I", .methodLink RX1 40 yX1_hasPeg, .instanceMethod yX1_hasPeg, .selects RX1 yX1_hasPeg yX1_hasPeg, .code yX1_hasPeg cX1_hasPeg 3 (some .boolean)] ++ wsX30 ++ wsX10)
def wsX4_allMarks : List Cond := .code yX4_allMarks cX4_allMarks 3 (some .int) :: ([.fieldLink RX4 15 "PegClerks$Stamps" "marks" "[I"] ++ wsX40)
def wsX5_init_r1 : List Cond := [Cond.methodLink RX5 1 objectInit, Cond.instanceMethod objectInit, Cond.code objectInit ⟨#[0xb1]⟩ 1 none, Cond.classLink RX5 7 RX0, Cond.instantiable RX0 13, Cond.initialized RX0, Cond.fieldLink RX5 10 "PegClerks" "clerk" "LPegClerks$Clerk;", Cond.fieldLink RX5 16 "PegClerks" "trial" "LPegClerks$Clerk;", Cond.classLink RX5 19 RX2, Cond.instantiable RX2 3, Cond.initialized RX2, Cond.fieldLink RX5 22 "PegClerks" "history" "LPegClerks$History;", Cond.classLink RX5 26 RX3, Cond.instantiable RX3 2, Cond.initialized RX3, Cond.fieldLink RX5 29 "PegClerks" "pad" "LPegClerks$Pad;", Cond.fieldLink RX5 33 "PegClerks" "slots" "[LPegClerks$Clerk;", Cond.arrayClass .boolean, Cond.fieldLink RX5 37 "PegClerks" "saved" "[Z", Cond.instanceMethod yX0_init, Cond.code yX0_init cX0_init 1 none, Cond.methodLink RX0 3 objectInit, Cond.arrayClass .int, Cond.fieldLink RX0 9 "PegClerks$Clerk" "settings" "[I"]
def wsX5_init_r2 : List Cond := [Cond.classLink RX0 15 RX1, Cond.instantiable RX1 4, Cond.initialized RX1, Cond.fieldLink RX0 18 "PegClerks$Clerk" "drum" "LPegClerks$Drum;", Cond.classLink RX0 22 RX4, Cond.instantiable RX4 4, Cond.initialized RX4, Cond.fieldLink RX0 25 "PegClerks$Clerk" "stamps" "LPegClerks$Stamps;", Cond.instanceMethod yX1_init, Cond.code yX1_init cX1_init 1 none, Cond.methodLink RX1 3 objectInit, Cond.fieldLink RX1 9 "PegClerks$Drum" "rows" "[I", Cond.fieldLink RX1 15 "PegClerks$Drum" "stampings" "[I", Cond.instanceMethod yX4_init, Cond.code yX4_init cX4_init 1 none, Cond.methodLink RX4 3 objectInit, Cond.fieldLink RX4 9 "PegClerks$Stamps" "inks" "[I", Cond.fieldLink RX4 15 "PegClerks$Stamps" "marks" "[I", Cond.fieldLink RX4 18 "PegClerks$Stamps" "dryFalls" "[I", Cond.fieldLink RX4 21 "PegClerks$Stamps" "spoilings" "[I", Cond.instanceMethod yX2_init, Cond.code yX2_init cX2_init 1 none, Cond.methodLink RX2 1 objectInit, Cond.classLink RX2 7 RX0]
def wsX5_init_r3 : List Cond := [Cond.fieldLink RX2 10 "PegClerks$History" "states" "[LPegClerks$Clerk;", Cond.instanceMethod yX3_init, Cond.code yX3_init cX3_init 1 none, Cond.methodLink RX3 3 objectInit, Cond.arrayClass .char, Cond.fieldLink RX3 11 "PegClerks$Pad" "signs" "[C"]
def wsX5_init : List Cond := .code yX5_init cX5_init 1 none :: ((wsX5_init_r1 ++ (wsX5_init_r2 ++ wsX5_init_r3)) ++ wsX00 ++ wsX50 ++ wsX20 ++ wsX30 ++ wsX10 ++ wsX40)
def wsX5_set_r1 : List Cond := [Cond.fieldLink RX5 41 "PegClerks" "LEAST" "[I", Cond.fieldLink RX5 45 "PegClerks" "MOST" "[I", Cond.fieldLink RX5 22 "PegClerks" "history" "LPegClerks$History;", Cond.fieldLink RX5 10 "PegClerks" "clerk" "LPegClerks$Clerk;", Cond.fieldLink RX5 52 "PegClerks$Clerk" "settings" "[I", Cond.methodLink RX5 48 yX2_keep, Cond.instanceMethod yX2_keep, Cond.selects RX2 yX2_keep yX2_keep, Cond.initialized RX2, Cond.code yX2_keep cX2_keep 2 none, Cond.fieldLink RX2 10 "PegClerks$History" "states" "[LPegClerks$Clerk;", Cond.fieldLink RX2 16 "PegClerks$History" "next" "I", Cond.fieldLink RX2 24 "PegClerks$History" "kept" "I", Cond.methodLink RX2 27 Lib.Math.min.name, Cond.static Lib.Math.min.name, Cond.initialized "java/lang/Math", Cond.code Lib.Math.min.name Lib.Math.min.code 2 (some .int), Cond.methodLink RX2 20 yX0_copyFrom, Cond.instanceMethod yX0_copyFrom, Cond.selects RX0 yX0_copyFrom yX0_copyFrom, Cond.initialized RX0, Cond.code yX0_copyFrom cX0_copyFrom 2 none, Cond.fieldLink RX0 9 "PegClerks$Clerk" "settings" "[I", Cond.methodLink RX0 29 arraycopyName]
def wsX5_set_r2 : List Cond := [Cond.native arraycopyName, Cond.static arraycopyName, Cond.initialized "java/lang/System", Cond.fieldLink RX0 18 "PegClerks$Clerk" "drum" "LPegClerks$Drum;", Cond.fieldLink RX0 25 "PegClerks$Clerk" "stamps" "LPegClerks$Stamps;", Cond.fieldLink RX0 42 "PegClerks$Clerk" "jammed" "Z", Cond.fieldLink RX0 46 "PegClerks$Clerk" "order" "I", Cond.fieldLink RX0 50 "PegClerks$Clerk" "formStamps" "I", Cond.fieldLink RX0 53 "PegClerks$Clerk" "formSpoiled" "Z", Cond.fieldLink RX0 56 "PegClerks$Clerk" "formSteps" "I", Cond.fieldLink RX0 59 "PegClerks$Clerk" "steps" "I", Cond.fieldLink RX0 62 "PegClerks$Clerk" "rightForms" "I", Cond.fieldLink RX0 65 "PegClerks$Clerk" "wrongForms" "I", Cond.fieldLink RX0 68 "PegClerks$Clerk" "spoiledForms" "I", Cond.fieldLink RX0 71 "PegClerks$Clerk" "jams" "I", Cond.methodLink RX0 35 yX1_copyFrom, Cond.instanceMethod yX1_copyFrom, Cond.selects RX1 yX1_copyFrom yX1_copyFrom, Cond.initialized RX1, Cond.code yX1_copyFrom cX1_copyFrom 2 none, Cond.fieldLink RX1 9 "PegClerks$Drum" "rows" "[I", Cond.methodLink RX1 18 arraycopyName, Cond.fieldLink RX1 15 "PegClerks$Drum" "stampings" "[I", Cond.fieldLink RX1 24 "PegClerks$Drum" "at" "I"]
def wsX5_set_r3 : List Cond := [Cond.fieldLink RX1 28 "PegClerks$Drum" "fallenOut" "I", Cond.methodLink RX0 39 yX4_copyFrom, Cond.instanceMethod yX4_copyFrom, Cond.selects RX4 yX4_copyFrom yX4_copyFrom, Cond.initialized RX4, Cond.code yX4_copyFrom cX4_copyFrom 2 none, Cond.fieldLink RX4 9 "PegClerks$Stamps" "inks" "[I", Cond.methodLink RX4 24 arraycopyName, Cond.fieldLink RX4 15 "PegClerks$Stamps" "marks" "[I", Cond.fieldLink RX4 18 "PegClerks$Stamps" "dryFalls" "[I", Cond.fieldLink RX4 21 "PegClerks$Stamps" "spoilings" "[I"]
def wsX5_set : List Cond := .code yX5_set cX5_set 4 (some .int) :: ((wsX5_set_r1 ++ (wsX5_set_r2 ++ wsX5_set_r3)) ++ wsX50 ++ wsX00 ++ wsX20 ++ wsX10 ++ wsX40)
def wsX5_peg_r1 : List Cond := [Cond.fieldLink RX5 22 "PegClerks" "history" "LPegClerks$History;", Cond.fieldLink RX5 10 "PegClerks" "clerk" "LPegClerks$Clerk;", Cond.fieldLink RX5 62 "PegClerks$Clerk" "drum" "LPegClerks$Drum;", Cond.fieldLink RX5 66 "PegClerks$Drum" "rows" "[I", Cond.methodLink RX5 55 yX5_isRow, Cond.static yX5_isRow, Cond.initialized RX5, Cond.code yX5_isRow cX5_isRow 1 (some .boolean), Cond.methodLink RX5 59 yX5_isPlace, Cond.static yX5_isPlace, Cond.code yX5_isPlace cX5_isPlace 1 (some .boolean), Cond.methodLink RX5 48 yX2_keep, Cond.instanceMethod yX2_keep, Cond.selects RX2 yX2_keep yX2_keep, Cond.initialized RX2, Cond.code yX2_keep cX2_keep 2 none, Cond.fieldLink RX2 10 "PegClerks$History" "states" "[LPegClerks$Clerk;", Cond.fieldLink RX2 16 "PegClerks$History" "next" "I", Cond.fieldLink RX2 24 "PegClerks$History" "kept" "I", Cond.methodLink RX2 27 Lib.Math.min.name, Cond.static Lib.Math.min.name, Cond.initialized "java/lang/Math", Cond.code Lib.Math.min.name Lib.Math.min.code 2 (some .int), Cond.methodLink RX2 20 yX0_copyFrom]
def wsX5_peg_r2 : List Cond := [Cond.instanceMethod yX0_copyFrom, Cond.selects RX0 yX0_copyFrom yX0_copyFrom, Cond.initialized RX0, Cond.code yX0_copyFrom cX0_copyFrom 2 none, Cond.fieldLink RX0 9 "PegClerks$Clerk" "settings" "[I", Cond.methodLink RX0 29 arraycopyName, Cond.native arraycopyName, Cond.static arraycopyName, Cond.initialized "java/lang/System", Cond.fieldLink RX0 18 "PegClerks$Clerk" "drum" "LPegClerks$Drum;", Cond.fieldLink RX0 25 "PegClerks$Clerk" "stamps" "LPegClerks$Stamps;", Cond.fieldLink RX0 42 "PegClerks$Clerk" "jammed" "Z", Cond.fieldLink RX0 46 "PegClerks$Clerk" "order" "I", Cond.fieldLink RX0 50 "PegClerks$Clerk" "formStamps" "I", Cond.fieldLink RX0 53 "PegClerks$Clerk" "formSpoiled" "Z", Cond.fieldLink RX0 56 "PegClerks$Clerk" "formSteps" "I", Cond.fieldLink RX0 59 "PegClerks$Clerk" "steps" "I", Cond.fieldLink RX0 62 "PegClerks$Clerk" "rightForms" "I", Cond.fieldLink RX0 65 "PegClerks$Clerk" "wrongForms" "I", Cond.fieldLink RX0 68 "PegClerks$Clerk" "spoiledForms" "I", Cond.fieldLink RX0 71 "PegClerks$Clerk" "jams" "I", Cond.methodLink RX0 35 yX1_copyFrom, Cond.instanceMethod yX1_copyFrom, Cond.selects RX1 yX1_copyFrom yX1_copyFrom]
def wsX5_peg_r3 : List Cond := [Cond.initialized RX1, Cond.code yX1_copyFrom cX1_copyFrom 2 none, Cond.fieldLink RX1 9 "PegClerks$Drum" "rows" "[I", Cond.methodLink RX1 18 arraycopyName, Cond.fieldLink RX1 15 "PegClerks$Drum" "stampings" "[I", Cond.fieldLink RX1 24 "PegClerks$Drum" "at" "I", Cond.fieldLink RX1 28 "PegClerks$Drum" "fallenOut" "I", Cond.methodLink RX0 39 yX4_copyFrom, Cond.instanceMethod yX4_copyFrom, Cond.selects RX4 yX4_copyFrom yX4_copyFrom, Cond.initialized RX4, Cond.code yX4_copyFrom cX4_copyFrom 2 none, Cond.fieldLink RX4 9 "PegClerks$Stamps" "inks" "[I", Cond.methodLink RX4 24 arraycopyName, Cond.fieldLink RX4 15 "PegClerks$Stamps" "marks" "[I", Cond.fieldLink RX4 18 "PegClerks$Stamps" "dryFalls" "[I", Cond.fieldLink RX4 21 "PegClerks$Stamps" "spoilings" "[I", Cond.methodLink RX5 71 yX1_giveRow, Cond.instanceMethod yX1_giveRow, Cond.selects RX1 yX1_giveRow yX1_giveRow, Cond.code yX1_giveRow cX1_giveRow 4 none, Cond.methodLink RX1 40 yX1_hasPeg, Cond.instanceMethod yX1_hasPeg, Cond.selects RX1 yX1_hasPeg yX1_hasPeg]
def wsX5_peg_r4 : List Cond := [Cond.code yX1_hasPeg cX1_hasPeg 3 (some .boolean), Cond.methodLink RX5 75 yX1_pegsInRow, Cond.instanceMethod yX1_pegsInRow, Cond.selects RX1 yX1_pegsInRow yX1_pegsInRow, Cond.code yX1_pegsInRow cX1_pegsInRow 2 (some .int), Cond.methodLink RX1 35 yJ6_bitCount_0f7a4, Cond.static yJ6_bitCount_0f7a4, Cond.initialized RJ6, Cond.code yJ6_bitCount_0f7a4 cJ6_bitCount_0f7a4 1 (some .int), Cond.constant RJ6 265 (1431655765), Cond.constant RJ6 266 (858993459), Cond.constant RJ6 267 (252645135)]
def wsX5_peg : List Cond := .code yX5_peg cX5_peg 3 (some .int) :: ((wsX5_peg_r1 ++ (wsX5_peg_r2 ++ (wsX5_peg_r3 ++ wsX5_peg_r4))) ++ wsX50 ++ wsX00 ++ wsX10 ++ wsX20 ++ wsX40)
def wsX5_order_r1 : List Cond := [Cond.fieldLink RX5 22 "PegClerks" "history" "LPegClerks$History;", Cond.fieldLink RX5 10 "PegClerks" "clerk" "LPegClerks$Clerk;", Cond.fieldLink RX5 79 "PegClerks$Clerk" "order" "I", Cond.methodLink RX5 48 yX2_keep, Cond.instanceMethod yX2_keep, Cond.selects RX2 yX2_keep yX2_keep, Cond.initialized RX2, Cond.code yX2_keep cX2_keep 2 none, Cond.fieldLink RX2 10 "PegClerks$History" "states" "[LPegClerks$Clerk;", Cond.fieldLink RX2 16 "PegClerks$History" "next" "I", Cond.fieldLink RX2 24 "PegClerks$History" "kept" "I", Cond.methodLink RX2 27 Lib.Math.min.name, Cond.static Lib.Math.min.name, Cond.initialized "java/lang/Math", Cond.code Lib.Math.min.name Lib.Math.min.code 2 (some .int), Cond.methodLink RX2 20 yX0_copyFrom, Cond.instanceMethod yX0_copyFrom, Cond.selects RX0 yX0_copyFrom yX0_copyFrom, Cond.initialized RX0, Cond.code yX0_copyFrom cX0_copyFrom 2 none, Cond.fieldLink RX0 9 "PegClerks$Clerk" "settings" "[I", Cond.methodLink RX0 29 arraycopyName, Cond.native arraycopyName, Cond.static arraycopyName]
def wsX5_order_r2 : List Cond := [Cond.initialized "java/lang/System", Cond.fieldLink RX0 18 "PegClerks$Clerk" "drum" "LPegClerks$Drum;", Cond.fieldLink RX0 25 "PegClerks$Clerk" "stamps" "LPegClerks$Stamps;", Cond.fieldLink RX0 42 "PegClerks$Clerk" "jammed" "Z", Cond.fieldLink RX0 46 "PegClerks$Clerk" "order" "I", Cond.fieldLink RX0 50 "PegClerks$Clerk" "formStamps" "I", Cond.fieldLink RX0 53 "PegClerks$Clerk" "formSpoiled" "Z", Cond.fieldLink RX0 56 "PegClerks$Clerk" "formSteps" "I", Cond.fieldLink RX0 59 "PegClerks$Clerk" "steps" "I", Cond.fieldLink RX0 62 "PegClerks$Clerk" "rightForms" "I", Cond.fieldLink RX0 65 "PegClerks$Clerk" "wrongForms" "I", Cond.fieldLink RX0 68 "PegClerks$Clerk" "spoiledForms" "I", Cond.fieldLink RX0 71 "PegClerks$Clerk" "jams" "I", Cond.methodLink RX0 35 yX1_copyFrom, Cond.instanceMethod yX1_copyFrom, Cond.selects RX1 yX1_copyFrom yX1_copyFrom, Cond.initialized RX1, Cond.code yX1_copyFrom cX1_copyFrom 2 none, Cond.fieldLink RX1 9 "PegClerks$Drum" "rows" "[I", Cond.methodLink RX1 18 arraycopyName, Cond.fieldLink RX1 15 "PegClerks$Drum" "stampings" "[I", Cond.fieldLink RX1 24 "PegClerks$Drum" "at" "I", Cond.fieldLink RX1 28 "PegClerks$Drum" "fallenOut" "I", Cond.methodLink RX0 39 yX4_copyFrom]
def wsX5_order_r3 : List Cond := [Cond.instanceMethod yX4_copyFrom, Cond.selects RX4 yX4_copyFrom yX4_copyFrom, Cond.initialized RX4, Cond.code yX4_copyFrom cX4_copyFrom 2 none, Cond.fieldLink RX4 9 "PegClerks$Stamps" "inks" "[I", Cond.methodLink RX4 24 arraycopyName, Cond.fieldLink RX4 15 "PegClerks$Stamps" "marks" "[I", Cond.fieldLink RX4 18 "PegClerks$Stamps" "dryFalls" "[I", Cond.fieldLink RX4 21 "PegClerks$Stamps" "spoilings" "[I"]
def wsX5_order : List Cond := .code yX5_order cX5_order 3 (some .int) :: ((wsX5_order_r1 ++ (wsX5_order_r2 ++ wsX5_order_r3)) ++ wsX50 ++ wsX00 ++ wsX20 ++ wsX10 ++ wsX40)
def wsX5_ink_r1 : List Cond := [Cond.fieldLink RX5 22 "PegClerks" "history" "LPegClerks$History;", Cond.fieldLink RX5 10 "PegClerks" "clerk" "LPegClerks$Clerk;", Cond.fieldLink RX5 83 "PegClerks$Clerk" "stamps" "LPegClerks$Stamps;", Cond.fieldLink RX5 87 "PegClerks$Stamps" "inks" "[I", Cond.methodLink RX5 59 yX5_isPlace, Cond.static yX5_isPlace, Cond.initialized RX5, Cond.code yX5_isPlace cX5_isPlace 1 (some .boolean), Cond.methodLink RX5 48 yX2_keep, Cond.instanceMethod yX2_keep, Cond.selects RX2 yX2_keep yX2_keep, Cond.initialized RX2, Cond.code yX2_keep cX2_keep 2 none, Cond.fieldLink RX2 10 "PegClerks$History" "states" "[LPegClerks$Clerk;", Cond.fieldLink RX2 16 "PegClerks$History" "next" "I", Cond.fieldLink RX2 24 "PegClerks$History" "kept" "I", Cond.methodLink RX2 27 Lib.Math.min.name, Cond.static Lib.Math.min.name, Cond.initialized "java/lang/Math", Cond.code Lib.Math.min.name Lib.Math.min.code 2 (some .int), Cond.methodLink RX2 20 yX0_copyFrom, Cond.instanceMethod yX0_copyFrom, Cond.selects RX0 yX0_copyFrom yX0_copyFrom, Cond.initialized RX0]
def wsX5_ink_r2 : List Cond := [Cond.code yX0_copyFrom cX0_copyFrom 2 none, Cond.fieldLink RX0 9 "PegClerks$Clerk" "settings" "[I", Cond.methodLink RX0 29 arraycopyName, Cond.native arraycopyName, Cond.static arraycopyName, Cond.initialized "java/lang/System", Cond.fieldLink RX0 18 "PegClerks$Clerk" "drum" "LPegClerks$Drum;", Cond.fieldLink RX0 25 "PegClerks$Clerk" "stamps" "LPegClerks$Stamps;", Cond.fieldLink RX0 42 "PegClerks$Clerk" "jammed" "Z", Cond.fieldLink RX0 46 "PegClerks$Clerk" "order" "I", Cond.fieldLink RX0 50 "PegClerks$Clerk" "formStamps" "I", Cond.fieldLink RX0 53 "PegClerks$Clerk" "formSpoiled" "Z", Cond.fieldLink RX0 56 "PegClerks$Clerk" "formSteps" "I", Cond.fieldLink RX0 59 "PegClerks$Clerk" "steps" "I", Cond.fieldLink RX0 62 "PegClerks$Clerk" "rightForms" "I", Cond.fieldLink RX0 65 "PegClerks$Clerk" "wrongForms" "I", Cond.fieldLink RX0 68 "PegClerks$Clerk" "spoiledForms" "I", Cond.fieldLink RX0 71 "PegClerks$Clerk" "jams" "I", Cond.methodLink RX0 35 yX1_copyFrom, Cond.instanceMethod yX1_copyFrom, Cond.selects RX1 yX1_copyFrom yX1_copyFrom, Cond.initialized RX1, Cond.code yX1_copyFrom cX1_copyFrom 2 none, Cond.fieldLink RX1 9 "PegClerks$Drum" "rows" "[I"]
def wsX5_ink_r3 : List Cond := [Cond.methodLink RX1 18 arraycopyName, Cond.fieldLink RX1 15 "PegClerks$Drum" "stampings" "[I", Cond.fieldLink RX1 24 "PegClerks$Drum" "at" "I", Cond.fieldLink RX1 28 "PegClerks$Drum" "fallenOut" "I", Cond.methodLink RX0 39 yX4_copyFrom, Cond.instanceMethod yX4_copyFrom, Cond.selects RX4 yX4_copyFrom yX4_copyFrom, Cond.initialized RX4, Cond.code yX4_copyFrom cX4_copyFrom 2 none, Cond.fieldLink RX4 9 "PegClerks$Stamps" "inks" "[I", Cond.methodLink RX4 24 arraycopyName, Cond.fieldLink RX4 15 "PegClerks$Stamps" "marks" "[I", Cond.fieldLink RX4 18 "PegClerks$Stamps" "dryFalls" "[I", Cond.fieldLink RX4 21 "PegClerks$Stamps" "spoilings" "[I"]
def wsX5_ink : List Cond := .code yX5_ink cX5_ink 3 (some .int) :: ((wsX5_ink_r1 ++ (wsX5_ink_r2 ++ wsX5_ink_r3)) ++ wsX50 ++ wsX00 ++ wsX40 ++ wsX20 ++ wsX10)
def wsX5_step_r1 : List Cond := [Cond.fieldLink RX5 10 "PegClerks" "clerk" "LPegClerks$Clerk;", Cond.fieldLink RX5 92 "PegClerks$Clerk" "jammed" "Z", Cond.fieldLink RX5 96 "PegClerks$Clerk" "steps" "I", Cond.constant RX5 99 (99999), Cond.fieldLink RX5 22 "PegClerks" "history" "LPegClerks$History;", Cond.methodLink RX5 48 yX2_keep, Cond.instanceMethod yX2_keep, Cond.selects RX2 yX2_keep yX2_keep, Cond.initialized RX2, Cond.code yX2_keep cX2_keep 2 none, Cond.fieldLink RX2 10 "PegClerks$History" "states" "[LPegClerks$Clerk;", Cond.fieldLink RX2 16 "PegClerks$History" "next" "I", Cond.fieldLink RX2 24 "PegClerks$History" "kept" "I", Cond.methodLink RX2 27 Lib.Math.min.name, Cond.static Lib.Math.min.name, Cond.initialized "java/lang/Math", Cond.code Lib.Math.min.name Lib.Math.min.code 2 (some .int), Cond.methodLink RX2 20 yX0_copyFrom, Cond.instanceMethod yX0_copyFrom, Cond.selects RX0 yX0_copyFrom yX0_copyFrom, Cond.initialized RX0, Cond.code yX0_copyFrom cX0_copyFrom 2 none, Cond.fieldLink RX0 9 "PegClerks$Clerk" "settings" "[I", Cond.methodLink RX0 29 arraycopyName]
def wsX5_step_r2 : List Cond := [Cond.native arraycopyName, Cond.static arraycopyName, Cond.initialized "java/lang/System", Cond.fieldLink RX0 18 "PegClerks$Clerk" "drum" "LPegClerks$Drum;", Cond.fieldLink RX0 25 "PegClerks$Clerk" "stamps" "LPegClerks$Stamps;", Cond.fieldLink RX0 42 "PegClerks$Clerk" "jammed" "Z", Cond.fieldLink RX0 46 "PegClerks$Clerk" "order" "I", Cond.fieldLink RX0 50 "PegClerks$Clerk" "formStamps" "I", Cond.fieldLink RX0 53 "PegClerks$Clerk" "formSpoiled" "Z", Cond.fieldLink RX0 56 "PegClerks$Clerk" "formSteps" "I", Cond.fieldLink RX0 59 "PegClerks$Clerk" "steps" "I", Cond.fieldLink RX0 62 "PegClerks$Clerk" "rightForms" "I", Cond.fieldLink RX0 65 "PegClerks$Clerk" "wrongForms" "I", Cond.fieldLink RX0 68 "PegClerks$Clerk" "spoiledForms" "I", Cond.fieldLink RX0 71 "PegClerks$Clerk" "jams" "I", Cond.methodLink RX0 35 yX1_copyFrom, Cond.instanceMethod yX1_copyFrom, Cond.selects RX1 yX1_copyFrom yX1_copyFrom, Cond.initialized RX1, Cond.code yX1_copyFrom cX1_copyFrom 2 none, Cond.fieldLink RX1 9 "PegClerks$Drum" "rows" "[I", Cond.methodLink RX1 18 arraycopyName, Cond.fieldLink RX1 15 "PegClerks$Drum" "stampings" "[I", Cond.fieldLink RX1 24 "PegClerks$Drum" "at" "I"]
def wsX5_step_r3 : List Cond := [Cond.fieldLink RX1 28 "PegClerks$Drum" "fallenOut" "I", Cond.methodLink RX0 39 yX4_copyFrom, Cond.instanceMethod yX4_copyFrom, Cond.selects RX4 yX4_copyFrom yX4_copyFrom, Cond.initialized RX4, Cond.code yX4_copyFrom cX4_copyFrom 2 none, Cond.fieldLink RX4 9 "PegClerks$Stamps" "inks" "[I", Cond.methodLink RX4 24 arraycopyName, Cond.fieldLink RX4 15 "PegClerks$Stamps" "marks" "[I", Cond.fieldLink RX4 18 "PegClerks$Stamps" "dryFalls" "[I", Cond.fieldLink RX4 21 "PegClerks$Stamps" "spoilings" "[I", Cond.methodLink RX5 100 yX0_makeSteps, Cond.instanceMethod yX0_makeSteps, Cond.selects RX0 yX0_makeSteps yX0_makeSteps, Cond.code yX0_makeSteps cX0_makeSteps 3 (some .int), Cond.methodLink RX0 78 yX0_makeOneStep, Cond.instanceMethod yX0_makeOneStep, Cond.selects RX0 yX0_makeOneStep yX0_makeOneStep, Cond.code yX0_makeOneStep cX0_makeOneStep 1 (some .boolean), Cond.fieldLink RX0 82 "PegClerks$Drum" "at" "I", Cond.fieldLink RX0 89 "PegClerks$Drum" "rows" "[I", Cond.methodLink RX0 85 yX0_wouldJamAt, Cond.instanceMethod yX0_wouldJamAt, Cond.selects RX0 yX0_wouldJamAt yX0_wouldJamAt]
def wsX5_step_r4 : List Cond := [Cond.code yX0_wouldJamAt cX0_wouldJamAt 2 (some .boolean), Cond.methodLink RX0 74 yX1_pegsInRow, Cond.instanceMethod yX1_pegsInRow, Cond.selects RX1 yX1_pegsInRow yX1_pegsInRow, Cond.code yX1_pegsInRow cX1_pegsInRow 2 (some .int), Cond.methodLink RX1 35 yJ6_bitCount_0f7a4, Cond.static yJ6_bitCount_0f7a4, Cond.initialized RJ6, Cond.code yJ6_bitCount_0f7a4 cJ6_bitCount_0f7a4 1 (some .int), Cond.constant RJ6 265 (1431655765), Cond.constant RJ6 266 (858993459), Cond.constant RJ6 267 (252645135), Cond.methodLink RX0 92 yX0_letStampsFall, Cond.instanceMethod yX0_letStampsFall, Cond.selects RX0 yX0_letStampsFall yX0_letStampsFall, Cond.code yX0_letStampsFall cX0_letStampsFall 3 none, Cond.methodLink RX0 102 yX0_letStampFall, Cond.instanceMethod yX0_letStampFall, Cond.selects RX0 yX0_letStampFall yX0_letStampFall, Cond.code yX0_letStampFall cX0_letStampFall 2 none, Cond.fieldLink RX0 109 "PegClerks$Stamps" "spoilings" "[I", Cond.methodLink RX0 112 yX4_leavesMark, Cond.instanceMethod yX4_leavesMark, Cond.selects RX4 yX4_leavesMark yX4_leavesMark]
def wsX5_step_r5 : List Cond := [Cond.code yX4_leavesMark cX4_leavesMark 3 (some .boolean), Cond.methodLink RX0 105 yX1_wearPeg, Cond.instanceMethod yX1_wearPeg, Cond.selects RX1 yX1_wearPeg yX1_wearPeg, Cond.code yX1_wearPeg cX1_wearPeg 5 none, Cond.methodLink RX0 96 yX1_goOn, Cond.instanceMethod yX1_goOn, Cond.selects RX1 yX1_goOn yX1_goOn, Cond.code yX1_goOn cX1_goOn 1 none, Cond.methodLink RX1 31 yX1_rowBehind, Cond.static yX1_rowBehind, Cond.code yX1_rowBehind cX1_rowBehind 1 (some .int), Cond.methodLink RX0 99 yX0_finishForm, Cond.instanceMethod yX0_finishForm, Cond.selects RX0 yX0_finishForm yX0_finishForm, Cond.code yX0_finishForm cX0_finishForm 1 none, Cond.methodLink RX0 116 yX0_layForm, Cond.instanceMethod yX0_layForm, Cond.selects RX0 yX0_layForm yX0_layForm, Cond.code yX0_layForm cX0_layForm 1 none]
def wsX5_step : List Cond := .code yX5_step cX5_step 2 (some .int) :: ((wsX5_step_r1 ++ (wsX5_step_r2 ++ (wsX5_step_r3 ++ (wsX5_step_r4 ++ wsX5_step_r5)))) ++ wsX50 ++ wsX00 ++ wsX20 ++ wsX10 ++ wsX40)
def wsX5_free_r1 : List Cond := [Cond.fieldLink RX5 10 "PegClerks" "clerk" "LPegClerks$Clerk;", Cond.fieldLink RX5 92 "PegClerks$Clerk" "jammed" "Z", Cond.fieldLink RX5 22 "PegClerks" "history" "LPegClerks$History;", Cond.fieldLink RX5 62 "PegClerks$Clerk" "drum" "LPegClerks$Drum;", Cond.fieldLink RX5 103 "PegClerks$Drum" "at" "I", Cond.methodLink RX5 48 yX2_keep, Cond.instanceMethod yX2_keep, Cond.selects RX2 yX2_keep yX2_keep, Cond.initialized RX2, Cond.code yX2_keep cX2_keep 2 none, Cond.fieldLink RX2 10 "PegClerks$History" "states" "[LPegClerks$Clerk;", Cond.fieldLink RX2 16 "PegClerks$History" "next" "I", Cond.fieldLink RX2 24 "PegClerks$History" "kept" "I", Cond.methodLink RX2 27 Lib.Math.min.name, Cond.static Lib.Math.min.name, Cond.initialized "java/lang/Math", Cond.code Lib.Math.min.name Lib.Math.min.code 2 (some .int), Cond.methodLink RX2 20 yX0_copyFrom, Cond.instanceMethod yX0_copyFrom, Cond.selects RX0 yX0_copyFrom yX0_copyFrom, Cond.initialized RX0, Cond.code yX0_copyFrom cX0_copyFrom 2 none, Cond.fieldLink RX0 9 "PegClerks$Clerk" "settings" "[I", Cond.methodLink RX0 29 arraycopyName]
def wsX5_free_r2 : List Cond := [Cond.native arraycopyName, Cond.static arraycopyName, Cond.initialized "java/lang/System", Cond.fieldLink RX0 18 "PegClerks$Clerk" "drum" "LPegClerks$Drum;", Cond.fieldLink RX0 25 "PegClerks$Clerk" "stamps" "LPegClerks$Stamps;", Cond.fieldLink RX0 42 "PegClerks$Clerk" "jammed" "Z", Cond.fieldLink RX0 46 "PegClerks$Clerk" "order" "I", Cond.fieldLink RX0 50 "PegClerks$Clerk" "formStamps" "I", Cond.fieldLink RX0 53 "PegClerks$Clerk" "formSpoiled" "Z", Cond.fieldLink RX0 56 "PegClerks$Clerk" "formSteps" "I", Cond.fieldLink RX0 59 "PegClerks$Clerk" "steps" "I", Cond.fieldLink RX0 62 "PegClerks$Clerk" "rightForms" "I", Cond.fieldLink RX0 65 "PegClerks$Clerk" "wrongForms" "I", Cond.fieldLink RX0 68 "PegClerks$Clerk" "spoiledForms" "I", Cond.fieldLink RX0 71 "PegClerks$Clerk" "jams" "I", Cond.methodLink RX0 35 yX1_copyFrom, Cond.instanceMethod yX1_copyFrom, Cond.selects RX1 yX1_copyFrom yX1_copyFrom, Cond.initialized RX1, Cond.code yX1_copyFrom cX1_copyFrom 2 none, Cond.fieldLink RX1 9 "PegClerks$Drum" "rows" "[I", Cond.methodLink RX1 18 arraycopyName, Cond.fieldLink RX1 15 "PegClerks$Drum" "stampings" "[I", Cond.fieldLink RX1 24 "PegClerks$Drum" "at" "I"]
def wsX5_free_r3 : List Cond := [Cond.fieldLink RX1 28 "PegClerks$Drum" "fallenOut" "I", Cond.methodLink RX0 39 yX4_copyFrom, Cond.instanceMethod yX4_copyFrom, Cond.selects RX4 yX4_copyFrom yX4_copyFrom, Cond.initialized RX4, Cond.code yX4_copyFrom cX4_copyFrom 2 none, Cond.fieldLink RX4 9 "PegClerks$Stamps" "inks" "[I", Cond.methodLink RX4 24 arraycopyName, Cond.fieldLink RX4 15 "PegClerks$Stamps" "marks" "[I", Cond.fieldLink RX4 18 "PegClerks$Stamps" "dryFalls" "[I", Cond.fieldLink RX4 21 "PegClerks$Stamps" "spoilings" "[I", Cond.methodLink RX5 106 yX1_goOn, Cond.instanceMethod yX1_goOn, Cond.selects RX1 yX1_goOn yX1_goOn, Cond.code yX1_goOn cX1_goOn 1 none, Cond.methodLink RX1 31 yX1_rowBehind, Cond.static yX1_rowBehind, Cond.code yX1_rowBehind cX1_rowBehind 1 (some .int)]
def wsX5_free : List Cond := .code yX5_free cX5_free 2 (some .int) :: ((wsX5_free_r1 ++ (wsX5_free_r2 ++ wsX5_free_r3)) ++ wsX50 ++ wsX00 ++ wsX10 ++ wsX20 ++ wsX40)
def wsX5_newForm_r1 : List Cond := [Cond.fieldLink RX5 22 "PegClerks" "history" "LPegClerks$History;", Cond.fieldLink RX5 10 "PegClerks" "clerk" "LPegClerks$Clerk;", Cond.fieldLink RX5 109 "PegClerks$Clerk" "formStamps" "I", Cond.methodLink RX5 48 yX2_keep, Cond.instanceMethod yX2_keep, Cond.selects RX2 yX2_keep yX2_keep, Cond.initialized RX2, Cond.code yX2_keep cX2_keep 2 none, Cond.fieldLink RX2 10 "PegClerks$History" "states" "[LPegClerks$Clerk;", Cond.fieldLink RX2 16 "PegClerks$History" "next" "I", Cond.fieldLink RX2 24 "PegClerks$History" "kept" "I", Cond.methodLink RX2 27 Lib.Math.min.name, Cond.static Lib.Math.min.name, Cond.initialized "java/lang/Math", Cond.code Lib.Math.min.name Lib.Math.min.code 2 (some .int), Cond.methodLink RX2 20 yX0_copyFrom, Cond.instanceMethod yX0_copyFrom, Cond.selects RX0 yX0_copyFrom yX0_copyFrom, Cond.initialized RX0, Cond.code yX0_copyFrom cX0_copyFrom 2 none, Cond.fieldLink RX0 9 "PegClerks$Clerk" "settings" "[I", Cond.methodLink RX0 29 arraycopyName, Cond.native arraycopyName, Cond.static arraycopyName]
def wsX5_newForm_r2 : List Cond := [Cond.initialized "java/lang/System", Cond.fieldLink RX0 18 "PegClerks$Clerk" "drum" "LPegClerks$Drum;", Cond.fieldLink RX0 25 "PegClerks$Clerk" "stamps" "LPegClerks$Stamps;", Cond.fieldLink RX0 42 "PegClerks$Clerk" "jammed" "Z", Cond.fieldLink RX0 46 "PegClerks$Clerk" "order" "I", Cond.fieldLink RX0 50 "PegClerks$Clerk" "formStamps" "I", Cond.fieldLink RX0 53 "PegClerks$Clerk" "formSpoiled" "Z", Cond.fieldLink RX0 56 "PegClerks$Clerk" "formSteps" "I", Cond.fieldLink RX0 59 "PegClerks$Clerk" "steps" "I", Cond.fieldLink RX0 62 "PegClerks$Clerk" "rightForms" "I", Cond.fieldLink RX0 65 "PegClerks$Clerk" "wrongForms" "I", Cond.fieldLink RX0 68 "PegClerks$Clerk" "spoiledForms" "I", Cond.fieldLink RX0 71 "PegClerks$Clerk" "jams" "I", Cond.methodLink RX0 35 yX1_copyFrom, Cond.instanceMethod yX1_copyFrom, Cond.selects RX1 yX1_copyFrom yX1_copyFrom, Cond.initialized RX1, Cond.code yX1_copyFrom cX1_copyFrom 2 none, Cond.fieldLink RX1 9 "PegClerks$Drum" "rows" "[I", Cond.methodLink RX1 18 arraycopyName, Cond.fieldLink RX1 15 "PegClerks$Drum" "stampings" "[I", Cond.fieldLink RX1 24 "PegClerks$Drum" "at" "I", Cond.fieldLink RX1 28 "PegClerks$Drum" "fallenOut" "I", Cond.methodLink RX0 39 yX4_copyFrom]
def wsX5_newForm_r3 : List Cond := [Cond.instanceMethod yX4_copyFrom, Cond.selects RX4 yX4_copyFrom yX4_copyFrom, Cond.initialized RX4, Cond.code yX4_copyFrom cX4_copyFrom 2 none, Cond.fieldLink RX4 9 "PegClerks$Stamps" "inks" "[I", Cond.methodLink RX4 24 arraycopyName, Cond.fieldLink RX4 15 "PegClerks$Stamps" "marks" "[I", Cond.fieldLink RX4 18 "PegClerks$Stamps" "dryFalls" "[I", Cond.fieldLink RX4 21 "PegClerks$Stamps" "spoilings" "[I", Cond.methodLink RX5 112 yX0_layForm, Cond.instanceMethod yX0_layForm, Cond.selects RX0 yX0_layForm yX0_layForm, Cond.code yX0_layForm cX0_layForm 1 none]
def wsX5_newForm : List Cond := .code yX5_newForm cX5_newForm 2 (some .int) :: ((wsX5_newForm_r1 ++ (wsX5_newForm_r2 ++ wsX5_newForm_r3)) ++ wsX50 ++ wsX00 ++ wsX20 ++ wsX10 ++ wsX40)
def wsX5_read_r1 : List Cond := [Cond.fieldLink RX5 29 "PegClerks" "pad" "LPegClerks$Pad;", Cond.fieldLink RX5 22 "PegClerks" "history" "LPegClerks$History;", Cond.fieldLink RX5 10 "PegClerks" "clerk" "LPegClerks$Clerk;", Cond.fieldLink RX5 62 "PegClerks$Clerk" "drum" "LPegClerks$Drum;", Cond.methodLink RX5 115 yX3_firstFault, Cond.instanceMethod yX3_firstFault, Cond.selects RX3 yX3_firstFault yX3_firstFault, Cond.initialized RX3, Cond.code yX3_firstFault cX3_firstFault 3 (some .int), Cond.fieldLink RX3 17 "PegClerks$Pad" "length" "I", Cond.fieldLink RX3 11 "PegClerks$Pad" "signs" "[C", Cond.methodLink RX3 21 yX3_dueBehind, Cond.static yX3_dueBehind, Cond.code yX3_dueBehind cX3_dueBehind 2 (some .int), Cond.methodLink RX3 25 yX3_dueBehindPlaces, Cond.static yX3_dueBehindPlaces, Cond.code yX3_dueBehindPlaces cX3_dueBehindPlaces 3 (some .int), Cond.static yX5_isPlace, Cond.initialized RX5, Cond.code yX5_isPlace cX5_isPlace 1 (some .boolean), Cond.methodLink RX5 48 yX2_keep, Cond.instanceMethod yX2_keep, Cond.selects RX2 yX2_keep yX2_keep, Cond.initialized RX2]
def wsX5_read_r2 : List Cond := [Cond.code yX2_keep cX2_keep 2 none, Cond.fieldLink RX2 10 "PegClerks$History" "states" "[LPegClerks$Clerk;", Cond.fieldLink RX2 16 "PegClerks$History" "next" "I", Cond.fieldLink RX2 24 "PegClerks$History" "kept" "I", Cond.methodLink RX2 27 Lib.Math.min.name, Cond.static Lib.Math.min.name, Cond.initialized "java/lang/Math", Cond.code Lib.Math.min.name Lib.Math.min.code 2 (some .int), Cond.methodLink RX2 20 yX0_copyFrom, Cond.instanceMethod yX0_copyFrom, Cond.selects RX0 yX0_copyFrom yX0_copyFrom, Cond.initialized RX0, Cond.code yX0_copyFrom cX0_copyFrom 2 none, Cond.fieldLink RX0 9 "PegClerks$Clerk" "settings" "[I", Cond.methodLink RX0 29 arraycopyName, Cond.native arraycopyName, Cond.static arraycopyName, Cond.initialized "java/lang/System", Cond.fieldLink RX0 18 "PegClerks$Clerk" "drum" "LPegClerks$Drum;", Cond.fieldLink RX0 25 "PegClerks$Clerk" "stamps" "LPegClerks$Stamps;", Cond.fieldLink RX0 42 "PegClerks$Clerk" "jammed" "Z", Cond.fieldLink RX0 46 "PegClerks$Clerk" "order" "I", Cond.fieldLink RX0 50 "PegClerks$Clerk" "formStamps" "I", Cond.fieldLink RX0 53 "PegClerks$Clerk" "formSpoiled" "Z"]
def wsX5_read_r3 : List Cond := [Cond.fieldLink RX0 56 "PegClerks$Clerk" "formSteps" "I", Cond.fieldLink RX0 59 "PegClerks$Clerk" "steps" "I", Cond.fieldLink RX0 62 "PegClerks$Clerk" "rightForms" "I", Cond.fieldLink RX0 65 "PegClerks$Clerk" "wrongForms" "I", Cond.fieldLink RX0 68 "PegClerks$Clerk" "spoiledForms" "I", Cond.fieldLink RX0 71 "PegClerks$Clerk" "jams" "I", Cond.methodLink RX0 35 yX1_copyFrom, Cond.instanceMethod yX1_copyFrom, Cond.selects RX1 yX1_copyFrom yX1_copyFrom, Cond.initialized RX1, Cond.code yX1_copyFrom cX1_copyFrom 2 none, Cond.fieldLink RX1 9 "PegClerks$Drum" "rows" "[I", Cond.methodLink RX1 18 arraycopyName, Cond.fieldLink RX1 15 "PegClerks$Drum" "stampings" "[I", Cond.fieldLink RX1 24 "PegClerks$Drum" "at" "I", Cond.fieldLink RX1 28 "PegClerks$Drum" "fallenOut" "I", Cond.methodLink RX0 39 yX4_copyFrom, Cond.instanceMethod yX4_copyFrom, Cond.selects RX4 yX4_copyFrom yX4_copyFrom, Cond.initialized RX4, Cond.code yX4_copyFrom cX4_copyFrom 2 none, Cond.fieldLink RX4 9 "PegClerks$Stamps" "inks" "[I", Cond.methodLink RX4 24 arraycopyName, Cond.fieldLink RX4 15 "PegClerks$Stamps" "marks" "[I"]
def wsX5_read_r4 : List Cond := [Cond.fieldLink RX4 18 "PegClerks$Stamps" "dryFalls" "[I", Cond.fieldLink RX4 21 "PegClerks$Stamps" "spoilings" "[I", Cond.methodLink RX5 119 yX3_changeRows, Cond.instanceMethod yX3_changeRows, Cond.selects RX3 yX3_changeRows yX3_changeRows, Cond.code yX3_changeRows cX3_changeRows 6 none, Cond.static yX5_isRow, Cond.code yX5_isRow cX5_isRow 1 (some .boolean), Cond.methodLink RX3 35 yX1_giveRow, Cond.instanceMethod yX1_giveRow, Cond.selects RX1 yX1_giveRow yX1_giveRow, Cond.code yX1_giveRow cX1_giveRow 4 none, Cond.methodLink RX1 40 yX1_hasPeg, Cond.instanceMethod yX1_hasPeg, Cond.selects RX1 yX1_hasPeg yX1_hasPeg, Cond.code yX1_hasPeg cX1_hasPeg 3 (some .boolean), Cond.methodLink RX5 123 yX3_empty, Cond.instanceMethod yX3_empty, Cond.selects RX3 yX3_empty yX3_empty, Cond.code yX3_empty cX3_empty 1 none, Cond.methodLink RX5 126 yX1_allPegs, Cond.instanceMethod yX1_allPegs, Cond.selects RX1 yX1_allPegs yX1_allPegs, Cond.code yX1_allPegs cX1_allPegs 3 (some .int)]
def wsX5_read_r5 : List Cond := [Cond.methodLink RX1 44 yX1_pegsInRow, Cond.instanceMethod yX1_pegsInRow, Cond.selects RX1 yX1_pegsInRow yX1_pegsInRow, Cond.code yX1_pegsInRow cX1_pegsInRow 2 (some .int), Cond.methodLink RX1 35 yJ6_bitCount_0f7a4, Cond.static yJ6_bitCount_0f7a4, Cond.initialized RJ6, Cond.code yJ6_bitCount_0f7a4 cJ6_bitCount_0f7a4 1 (some .int), Cond.constant RJ6 265 (1431655765), Cond.constant RJ6 266 (858993459), Cond.constant RJ6 267 (252645135)]
def wsX5_read : List Cond := .code yX5_read cX5_read 1 (some .int) :: ((wsX5_read_r1 ++ (wsX5_read_r2 ++ (wsX5_read_r3 ++ (wsX5_read_r4 ++ wsX5_read_r5)))) ++ wsX50 ++ wsX00 ++ wsX30 ++ wsX20 ++ wsX10 ++ wsX40)
def wsX5_asNumber : List Cond := .code yX5_asNumber cX5_asNumber 1 (some .int) :: ([])
def wsJ9_floorMod_7cf53 : List Cond := .code yJ9_floorMod_7cf53 cJ9_floorMod_7cf53 3 (some .int) :: ([])
def wsX5_row_r1 : List Cond := [Cond.fieldLink RX5 10 "PegClerks" "clerk" "LPegClerks$Clerk;", Cond.fieldLink RX5 62 "PegClerks$Clerk" "drum" "LPegClerks$Drum;", Cond.fieldLink RX5 66 "PegClerks$Drum" "rows" "[I", Cond.fieldLink RX5 103 "PegClerks$Drum" "at" "I", Cond.methodLink RX5 55 yX5_isRow, Cond.static yX5_isRow, Cond.initialized RX5, Cond.code yX5_isRow cX5_isRow 1 (some .boolean), Cond.methodLink RX5 75 yX1_pegsInRow, Cond.instanceMethod yX1_pegsInRow, Cond.selects RX1 yX1_pegsInRow yX1_pegsInRow, Cond.initialized RX1, Cond.code yX1_pegsInRow cX1_pegsInRow 2 (some .int), Cond.fieldLink RX1 9 "PegClerks$Drum" "rows" "[I", Cond.methodLink RX1 35 yJ6_bitCount_0f7a4, Cond.static yJ6_bitCount_0f7a4, Cond.initialized RJ6, Cond.code yJ6_bitCount_0f7a4 cJ6_bitCount_0f7a4 1 (some .int), Cond.constant RJ6 265 (1431655765), Cond.constant RJ6 266 (858993459), Cond.constant RJ6 267 (252645135), Cond.methodLink RX5 129 yX0_wouldJamAt, Cond.instanceMethod yX0_wouldJamAt, Cond.selects RX0 yX0_wouldJamAt yX0_wouldJamAt]
def wsX5_row_r2 : List Cond := [Cond.initialized RX0, Cond.code yX0_wouldJamAt cX0_wouldJamAt 2 (some .boolean), Cond.fieldLink RX0 18 "PegClerks$Clerk" "drum" "LPegClerks$Drum;", Cond.fieldLink RX0 9 "PegClerks$Clerk" "settings" "[I", Cond.methodLink RX0 74 yX1_pegsInRow, Cond.methodLink RX5 132 yX5_asNumber, Cond.static yX5_asNumber, Cond.code yX5_asNumber cX5_asNumber 1 (some .int), Cond.methodLink RX5 136 yJ9_floorMod_7cf53, Cond.static yJ9_floorMod_7cf53, Cond.initialized RJ9, Cond.code yJ9_floorMod_7cf53 cJ9_floorMod_7cf53 3 (some .int)]
def wsX5_row : List Cond := .code yX5_row cX5_row 3 (some .int) :: ((wsX5_row_r1 ++ wsX5_row_r2) ++ wsX50 ++ wsX00 ++ wsX10)
def wsX5_stamped : List Cond := .code yX5_stamped cX5_stamped 3 (some .int) :: ([.fieldLink RX5 10 "PegClerks" "clerk" "LPegClerks$Clerk;", .fieldLink RX5 62 "PegClerks$Clerk" "drum" "LPegClerks$Drum;", .fieldLink RX5 146 "PegClerks$Drum" "stampings" "[I", .methodLink RX5 55 yX5_isRow, .static yX5_isRow, .initialized RX5, .code yX5_isRow cX5_isRow 1 (some .boolean), .methodLink RX5 59 yX5_isPlace, .static yX5_isPlace, .code yX5_isPlace cX5_isPlace 1 (some .boolean), .methodLink RX5 142 yX1_hasPeg, .instanceMethod yX1_hasPeg, .selects RX1 yX1_hasPeg yX1_hasPeg, .initialized RX1, .code yX1_hasPeg cX1_hasPeg 3 (some .boolean), .fieldLink RX1 9 "PegClerks$Drum" "rows" "[I"] ++ wsX50 ++ wsX00 ++ wsX10)
def wsX5_stamp : List Cond := .code yX5_stamp cX5_stamp 3 (some .int) :: ([.fieldLink RX5 10 "PegClerks" "clerk" "LPegClerks$Clerk;", .fieldLink RX5 83 "PegClerks$Clerk" "stamps" "LPegClerks$Stamps;", .fieldLink RX5 87 "PegClerks$Stamps" "inks" "[I", .fieldLink RX5 149 "PegClerks$Stamps" "marks" "[I", .fieldLink RX5 152 "PegClerks$Stamps" "dryFalls" "[I", .fieldLink RX5 62 "PegClerks$Clerk" "drum" "LPegClerks$Drum;", .fieldLink RX5 158 "PegClerks$Stamps" "spoilings" "[I", .methodLink RX5 59 yX5_isPlace, .static yX5_isPlace, .initialized RX5, .code yX5_isPlace cX5_isPlace 1 (some .boolean), .methodLink RX5 155 yX1_pegsAtPlace, .instanceMethod yX1_pegsAtPlace, .selects RX1 yX1_pegsAtPlace yX1_pegsAtPlace, .initialized RX1, .code yX1_pegsAtPlace cX1_pegsAtPlace 4 (some .int), .methodLink RX1 40 yX1_hasPeg, .instanceMethod yX1_hasPeg, .selects RX1 yX1_hasPeg yX1_hasPeg, .code yX1_hasPeg cX1_hasPeg 3 (some .boolean), .fieldLink RX1 9 "PegClerks$Drum" "rows" "[I"] ++ wsX50 ++ wsX00 ++ wsX40 ++ wsX10)
def wsX5_count_r1 : List Cond := [Cond.fieldLink RX5 10 "PegClerks" "clerk" "LPegClerks$Clerk;", Cond.fieldLink RX5 52 "PegClerks$Clerk" "settings" "[I", Cond.fieldLink RX5 62 "PegClerks$Clerk" "drum" "LPegClerks$Drum;", Cond.fieldLink RX5 103 "PegClerks$Drum" "at" "I", Cond.fieldLink RX5 92 "PegClerks$Clerk" "jammed" "Z", Cond.fieldLink RX5 79 "PegClerks$Clerk" "order" "I", Cond.fieldLink RX5 109 "PegClerks$Clerk" "formStamps" "I", Cond.fieldLink RX5 161 "PegClerks$Clerk" "formSpoiled" "Z", Cond.fieldLink RX5 164 "PegClerks$Clerk" "formSteps" "I", Cond.fieldLink RX5 96 "PegClerks$Clerk" "steps" "I", Cond.fieldLink RX5 167 "PegClerks$Clerk" "rightForms" "I", Cond.fieldLink RX5 170 "PegClerks$Clerk" "wrongForms" "I", Cond.fieldLink RX5 173 "PegClerks$Clerk" "spoiledForms" "I", Cond.fieldLink RX5 176 "PegClerks$Clerk" "jams" "I", Cond.fieldLink RX5 179 "PegClerks$Drum" "fallenOut" "I", Cond.fieldLink RX5 83 "PegClerks$Clerk" "stamps" "LPegClerks$Stamps;", Cond.fieldLink RX5 29 "PegClerks" "pad" "LPegClerks$Pad;", Cond.fieldLink RX5 185 "PegClerks$Pad" "length" "I", Cond.fieldLink RX5 22 "PegClerks" "history" "LPegClerks$History;", Cond.fieldLink RX5 188 "PegClerks$History" "kept" "I", Cond.methodLink RX5 132 yX5_asNumber, Cond.static yX5_asNumber, Cond.initialized RX5, Cond.code yX5_asNumber cX5_asNumber 1 (some .int)]
def wsX5_count_r2 : List Cond := [Cond.methodLink RX5 126 yX1_allPegs, Cond.instanceMethod yX1_allPegs, Cond.selects RX1 yX1_allPegs yX1_allPegs, Cond.initialized RX1, Cond.code yX1_allPegs cX1_allPegs 3 (some .int), Cond.methodLink RX1 44 yX1_pegsInRow, Cond.instanceMethod yX1_pegsInRow, Cond.selects RX1 yX1_pegsInRow yX1_pegsInRow, Cond.code yX1_pegsInRow cX1_pegsInRow 2 (some .int), Cond.fieldLink RX1 9 "PegClerks$Drum" "rows" "[I", Cond.methodLink RX1 35 yJ6_bitCount_0f7a4, Cond.static yJ6_bitCount_0f7a4, Cond.initialized RJ6, Cond.code yJ6_bitCount_0f7a4 cJ6_bitCount_0f7a4 1 (some .int), Cond.constant RJ6 265 (1431655765), Cond.constant RJ6 266 (858993459), Cond.constant RJ6 267 (252645135), Cond.methodLink RX5 182 yX4_allMarks, Cond.instanceMethod yX4_allMarks, Cond.selects RX4 yX4_allMarks yX4_allMarks, Cond.initialized RX4, Cond.code yX4_allMarks cX4_allMarks 3 (some .int), Cond.fieldLink RX4 15 "PegClerks$Stamps" "marks" "[I"]
def wsX5_count : List Cond := .code yX5_count cX5_count 2 (some .int) :: ((wsX5_count_r1 ++ wsX5_count_r2) ++ wsX50 ++ wsX00 ++ wsX10 ++ wsX30 ++ wsX20 ++ wsX40)
def wsX5_untilJam_r1 : List Cond := [Cond.fieldLink RX5 16 "PegClerks" "trial" "LPegClerks$Clerk;", Cond.fieldLink RX5 10 "PegClerks" "clerk" "LPegClerks$Clerk;", Cond.fieldLink RX5 92 "PegClerks$Clerk" "jammed" "Z", Cond.methodLink RX5 191 yX0_copyFrom, Cond.instanceMethod yX0_copyFrom, Cond.selects RX0 yX0_copyFrom yX0_copyFrom, Cond.initialized RX0, Cond.code yX0_copyFrom cX0_copyFrom 2 none, Cond.fieldLink RX0 9 "PegClerks$Clerk" "settings" "[I", Cond.methodLink RX0 29 arraycopyName, Cond.native arraycopyName, Cond.static arraycopyName, Cond.initialized "java/lang/System", Cond.fieldLink RX0 18 "PegClerks$Clerk" "drum" "LPegClerks$Drum;", Cond.fieldLink RX0 25 "PegClerks$Clerk" "stamps" "LPegClerks$Stamps;", Cond.fieldLink RX0 42 "PegClerks$Clerk" "jammed" "Z", Cond.fieldLink RX0 46 "PegClerks$Clerk" "order" "I", Cond.fieldLink RX0 50 "PegClerks$Clerk" "formStamps" "I", Cond.fieldLink RX0 53 "PegClerks$Clerk" "formSpoiled" "Z", Cond.fieldLink RX0 56 "PegClerks$Clerk" "formSteps" "I", Cond.fieldLink RX0 59 "PegClerks$Clerk" "steps" "I", Cond.fieldLink RX0 62 "PegClerks$Clerk" "rightForms" "I", Cond.fieldLink RX0 65 "PegClerks$Clerk" "wrongForms" "I", Cond.fieldLink RX0 68 "PegClerks$Clerk" "spoiledForms" "I"]
def wsX5_untilJam_r2 : List Cond := [Cond.fieldLink RX0 71 "PegClerks$Clerk" "jams" "I", Cond.methodLink RX0 35 yX1_copyFrom, Cond.instanceMethod yX1_copyFrom, Cond.selects RX1 yX1_copyFrom yX1_copyFrom, Cond.initialized RX1, Cond.code yX1_copyFrom cX1_copyFrom 2 none, Cond.fieldLink RX1 9 "PegClerks$Drum" "rows" "[I", Cond.methodLink RX1 18 arraycopyName, Cond.fieldLink RX1 15 "PegClerks$Drum" "stampings" "[I", Cond.fieldLink RX1 24 "PegClerks$Drum" "at" "I", Cond.fieldLink RX1 28 "PegClerks$Drum" "fallenOut" "I", Cond.methodLink RX0 39 yX4_copyFrom, Cond.instanceMethod yX4_copyFrom, Cond.selects RX4 yX4_copyFrom yX4_copyFrom, Cond.initialized RX4, Cond.code yX4_copyFrom cX4_copyFrom 2 none, Cond.fieldLink RX4 9 "PegClerks$Stamps" "inks" "[I", Cond.methodLink RX4 24 arraycopyName, Cond.fieldLink RX4 15 "PegClerks$Stamps" "marks" "[I", Cond.fieldLink RX4 18 "PegClerks$Stamps" "dryFalls" "[I", Cond.fieldLink RX4 21 "PegClerks$Stamps" "spoilings" "[I", Cond.methodLink RX5 100 yX0_makeSteps, Cond.instanceMethod yX0_makeSteps, Cond.selects RX0 yX0_makeSteps yX0_makeSteps]
def wsX5_untilJam_r3 : List Cond := [Cond.code yX0_makeSteps cX0_makeSteps 3 (some .int), Cond.methodLink RX0 78 yX0_makeOneStep, Cond.instanceMethod yX0_makeOneStep, Cond.selects RX0 yX0_makeOneStep yX0_makeOneStep, Cond.code yX0_makeOneStep cX0_makeOneStep 1 (some .boolean), Cond.fieldLink RX0 82 "PegClerks$Drum" "at" "I", Cond.fieldLink RX0 89 "PegClerks$Drum" "rows" "[I", Cond.methodLink RX0 85 yX0_wouldJamAt, Cond.instanceMethod yX0_wouldJamAt, Cond.selects RX0 yX0_wouldJamAt yX0_wouldJamAt, Cond.code yX0_wouldJamAt cX0_wouldJamAt 2 (some .boolean), Cond.methodLink RX0 74 yX1_pegsInRow, Cond.instanceMethod yX1_pegsInRow, Cond.selects RX1 yX1_pegsInRow yX1_pegsInRow, Cond.code yX1_pegsInRow cX1_pegsInRow 2 (some .int), Cond.methodLink RX1 35 yJ6_bitCount_0f7a4, Cond.static yJ6_bitCount_0f7a4, Cond.initialized RJ6, Cond.code yJ6_bitCount_0f7a4 cJ6_bitCount_0f7a4 1 (some .int), Cond.constant RJ6 265 (1431655765), Cond.constant RJ6 266 (858993459), Cond.constant RJ6 267 (252645135), Cond.methodLink RX0 92 yX0_letStampsFall, Cond.instanceMethod yX0_letStampsFall]
def wsX5_untilJam_r4 : List Cond := [Cond.selects RX0 yX0_letStampsFall yX0_letStampsFall, Cond.code yX0_letStampsFall cX0_letStampsFall 3 none, Cond.methodLink RX0 102 yX0_letStampFall, Cond.instanceMethod yX0_letStampFall, Cond.selects RX0 yX0_letStampFall yX0_letStampFall, Cond.code yX0_letStampFall cX0_letStampFall 2 none, Cond.fieldLink RX0 109 "PegClerks$Stamps" "spoilings" "[I", Cond.methodLink RX0 112 yX4_leavesMark, Cond.instanceMethod yX4_leavesMark, Cond.selects RX4 yX4_leavesMark yX4_leavesMark, Cond.code yX4_leavesMark cX4_leavesMark 3 (some .boolean), Cond.methodLink RX0 105 yX1_wearPeg, Cond.instanceMethod yX1_wearPeg, Cond.selects RX1 yX1_wearPeg yX1_wearPeg, Cond.code yX1_wearPeg cX1_wearPeg 5 none, Cond.methodLink RX0 96 yX1_goOn, Cond.instanceMethod yX1_goOn, Cond.selects RX1 yX1_goOn yX1_goOn, Cond.code yX1_goOn cX1_goOn 1 none, Cond.methodLink RX1 31 yX1_rowBehind, Cond.static yX1_rowBehind, Cond.code yX1_rowBehind cX1_rowBehind 1 (some .int), Cond.methodLink RX0 99 yX0_finishForm, Cond.instanceMethod yX0_finishForm]
def wsX5_untilJam_r5 : List Cond := [Cond.selects RX0 yX0_finishForm yX0_finishForm, Cond.code yX0_finishForm cX0_finishForm 1 none, Cond.methodLink RX0 116 yX0_layForm, Cond.instanceMethod yX0_layForm, Cond.selects RX0 yX0_layForm yX0_layForm, Cond.code yX0_layForm cX0_layForm 1 none]
def wsX5_untilJam : List Cond := .code yX5_untilJam cX5_untilJam 2 (some .int) :: ((wsX5_untilJam_r1 ++ (wsX5_untilJam_r2 ++ (wsX5_untilJam_r3 ++ (wsX5_untilJam_r4 ++ wsX5_untilJam_r5)))) ++ wsX50 ++ wsX00 ++ wsX10 ++ wsX40)
def wsX5_ifStepped_r1 : List Cond := [Cond.fieldLink RX5 16 "PegClerks" "trial" "LPegClerks$Clerk;", Cond.fieldLink RX5 10 "PegClerks" "clerk" "LPegClerks$Clerk;", Cond.fieldLink RX5 167 "PegClerks$Clerk" "rightForms" "I", Cond.fieldLink RX5 170 "PegClerks$Clerk" "wrongForms" "I", Cond.fieldLink RX5 173 "PegClerks$Clerk" "spoiledForms" "I", Cond.fieldLink RX5 83 "PegClerks$Clerk" "stamps" "LPegClerks$Stamps;", Cond.methodLink RX5 191 yX0_copyFrom, Cond.instanceMethod yX0_copyFrom, Cond.selects RX0 yX0_copyFrom yX0_copyFrom, Cond.initialized RX0, Cond.code yX0_copyFrom cX0_copyFrom 2 none, Cond.fieldLink RX0 9 "PegClerks$Clerk" "settings" "[I", Cond.methodLink RX0 29 arraycopyName, Cond.native arraycopyName, Cond.static arraycopyName, Cond.initialized "java/lang/System", Cond.fieldLink RX0 18 "PegClerks$Clerk" "drum" "LPegClerks$Drum;", Cond.fieldLink RX0 25 "PegClerks$Clerk" "stamps" "LPegClerks$Stamps;", Cond.fieldLink RX0 42 "PegClerks$Clerk" "jammed" "Z", Cond.fieldLink RX0 46 "PegClerks$Clerk" "order" "I", Cond.fieldLink RX0 50 "PegClerks$Clerk" "formStamps" "I", Cond.fieldLink RX0 53 "PegClerks$Clerk" "formSpoiled" "Z", Cond.fieldLink RX0 56 "PegClerks$Clerk" "formSteps" "I", Cond.fieldLink RX0 59 "PegClerks$Clerk" "steps" "I"]
def wsX5_ifStepped_r2 : List Cond := [Cond.fieldLink RX0 62 "PegClerks$Clerk" "rightForms" "I", Cond.fieldLink RX0 65 "PegClerks$Clerk" "wrongForms" "I", Cond.fieldLink RX0 68 "PegClerks$Clerk" "spoiledForms" "I", Cond.fieldLink RX0 71 "PegClerks$Clerk" "jams" "I", Cond.methodLink RX0 35 yX1_copyFrom, Cond.instanceMethod yX1_copyFrom, Cond.selects RX1 yX1_copyFrom yX1_copyFrom, Cond.initialized RX1, Cond.code yX1_copyFrom cX1_copyFrom 2 none, Cond.fieldLink RX1 9 "PegClerks$Drum" "rows" "[I", Cond.methodLink RX1 18 arraycopyName, Cond.fieldLink RX1 15 "PegClerks$Drum" "stampings" "[I", Cond.fieldLink RX1 24 "PegClerks$Drum" "at" "I", Cond.fieldLink RX1 28 "PegClerks$Drum" "fallenOut" "I", Cond.methodLink RX0 39 yX4_copyFrom, Cond.instanceMethod yX4_copyFrom, Cond.selects RX4 yX4_copyFrom yX4_copyFrom, Cond.initialized RX4, Cond.code yX4_copyFrom cX4_copyFrom 2 none, Cond.fieldLink RX4 9 "PegClerks$Stamps" "inks" "[I", Cond.methodLink RX4 24 arraycopyName, Cond.fieldLink RX4 15 "PegClerks$Stamps" "marks" "[I", Cond.fieldLink RX4 18 "PegClerks$Stamps" "dryFalls" "[I", Cond.fieldLink RX4 21 "PegClerks$Stamps" "spoilings" "[I"]
def wsX5_ifStepped_r3 : List Cond := [Cond.methodLink RX5 100 yX0_makeSteps, Cond.instanceMethod yX0_makeSteps, Cond.selects RX0 yX0_makeSteps yX0_makeSteps, Cond.code yX0_makeSteps cX0_makeSteps 3 (some .int), Cond.methodLink RX0 78 yX0_makeOneStep, Cond.instanceMethod yX0_makeOneStep, Cond.selects RX0 yX0_makeOneStep yX0_makeOneStep, Cond.code yX0_makeOneStep cX0_makeOneStep 1 (some .boolean), Cond.fieldLink RX0 82 "PegClerks$Drum" "at" "I", Cond.fieldLink RX0 89 "PegClerks$Drum" "rows" "[I", Cond.methodLink RX0 85 yX0_wouldJamAt, Cond.instanceMethod yX0_wouldJamAt, Cond.selects RX0 yX0_wouldJamAt yX0_wouldJamAt, Cond.code yX0_wouldJamAt cX0_wouldJamAt 2 (some .boolean), Cond.methodLink RX0 74 yX1_pegsInRow, Cond.instanceMethod yX1_pegsInRow, Cond.selects RX1 yX1_pegsInRow yX1_pegsInRow, Cond.code yX1_pegsInRow cX1_pegsInRow 2 (some .int), Cond.methodLink RX1 35 yJ6_bitCount_0f7a4, Cond.static yJ6_bitCount_0f7a4, Cond.initialized RJ6, Cond.code yJ6_bitCount_0f7a4 cJ6_bitCount_0f7a4 1 (some .int), Cond.constant RJ6 265 (1431655765), Cond.constant RJ6 266 (858993459)]
def wsX5_ifStepped_r4 : List Cond := [Cond.constant RJ6 267 (252645135), Cond.methodLink RX0 92 yX0_letStampsFall, Cond.instanceMethod yX0_letStampsFall, Cond.selects RX0 yX0_letStampsFall yX0_letStampsFall, Cond.code yX0_letStampsFall cX0_letStampsFall 3 none, Cond.methodLink RX0 102 yX0_letStampFall, Cond.instanceMethod yX0_letStampFall, Cond.selects RX0 yX0_letStampFall yX0_letStampFall, Cond.code yX0_letStampFall cX0_letStampFall 2 none, Cond.fieldLink RX0 109 "PegClerks$Stamps" "spoilings" "[I", Cond.methodLink RX0 112 yX4_leavesMark, Cond.instanceMethod yX4_leavesMark, Cond.selects RX4 yX4_leavesMark yX4_leavesMark, Cond.code yX4_leavesMark cX4_leavesMark 3 (some .boolean), Cond.methodLink RX0 105 yX1_wearPeg, Cond.instanceMethod yX1_wearPeg, Cond.selects RX1 yX1_wearPeg yX1_wearPeg, Cond.code yX1_wearPeg cX1_wearPeg 5 none, Cond.methodLink RX0 96 yX1_goOn, Cond.instanceMethod yX1_goOn, Cond.selects RX1 yX1_goOn yX1_goOn, Cond.code yX1_goOn cX1_goOn 1 none, Cond.methodLink RX1 31 yX1_rowBehind, Cond.static yX1_rowBehind]
def wsX5_ifStepped_r5 : List Cond := [Cond.code yX1_rowBehind cX1_rowBehind 1 (some .int), Cond.methodLink RX0 99 yX0_finishForm, Cond.instanceMethod yX0_finishForm, Cond.selects RX0 yX0_finishForm yX0_finishForm, Cond.code yX0_finishForm cX0_finishForm 1 none, Cond.methodLink RX0 116 yX0_layForm, Cond.instanceMethod yX0_layForm, Cond.selects RX0 yX0_layForm yX0_layForm, Cond.code yX0_layForm cX0_layForm 1 none, Cond.methodLink RX5 182 yX4_allMarks, Cond.instanceMethod yX4_allMarks, Cond.selects RX4 yX4_allMarks yX4_allMarks, Cond.code yX4_allMarks cX4_allMarks 3 (some .int)]
def wsX5_ifStepped : List Cond := .code yX5_ifStepped cX5_ifStepped 4 (some .int) :: ((wsX5_ifStepped_r1 ++ (wsX5_ifStepped_r2 ++ (wsX5_ifStepped_r3 ++ (wsX5_ifStepped_r4 ++ wsX5_ifStepped_r5)))) ++ wsX50 ++ wsX00 ++ wsX10 ++ wsX40)
def wsX5_rightWithRow_r1 : List Cond := [Cond.fieldLink RX5 16 "PegClerks" "trial" "LPegClerks$Clerk;", Cond.fieldLink RX5 10 "PegClerks" "clerk" "LPegClerks$Clerk;", Cond.fieldLink RX5 62 "PegClerks$Clerk" "drum" "LPegClerks$Drum;", Cond.fieldLink RX5 167 "PegClerks$Clerk" "rightForms" "I", Cond.methodLink RX5 191 yX0_copyFrom, Cond.instanceMethod yX0_copyFrom, Cond.selects RX0 yX0_copyFrom yX0_copyFrom, Cond.initialized RX0, Cond.code yX0_copyFrom cX0_copyFrom 2 none, Cond.fieldLink RX0 9 "PegClerks$Clerk" "settings" "[I", Cond.methodLink RX0 29 arraycopyName, Cond.native arraycopyName, Cond.static arraycopyName, Cond.initialized "java/lang/System", Cond.fieldLink RX0 18 "PegClerks$Clerk" "drum" "LPegClerks$Drum;", Cond.fieldLink RX0 25 "PegClerks$Clerk" "stamps" "LPegClerks$Stamps;", Cond.fieldLink RX0 42 "PegClerks$Clerk" "jammed" "Z", Cond.fieldLink RX0 46 "PegClerks$Clerk" "order" "I", Cond.fieldLink RX0 50 "PegClerks$Clerk" "formStamps" "I", Cond.fieldLink RX0 53 "PegClerks$Clerk" "formSpoiled" "Z", Cond.fieldLink RX0 56 "PegClerks$Clerk" "formSteps" "I", Cond.fieldLink RX0 59 "PegClerks$Clerk" "steps" "I", Cond.fieldLink RX0 62 "PegClerks$Clerk" "rightForms" "I", Cond.fieldLink RX0 65 "PegClerks$Clerk" "wrongForms" "I"]
def wsX5_rightWithRow_r2 : List Cond := [Cond.fieldLink RX0 68 "PegClerks$Clerk" "spoiledForms" "I", Cond.fieldLink RX0 71 "PegClerks$Clerk" "jams" "I", Cond.methodLink RX0 35 yX1_copyFrom, Cond.instanceMethod yX1_copyFrom, Cond.selects RX1 yX1_copyFrom yX1_copyFrom, Cond.initialized RX1, Cond.code yX1_copyFrom cX1_copyFrom 2 none, Cond.fieldLink RX1 9 "PegClerks$Drum" "rows" "[I", Cond.methodLink RX1 18 arraycopyName, Cond.fieldLink RX1 15 "PegClerks$Drum" "stampings" "[I", Cond.fieldLink RX1 24 "PegClerks$Drum" "at" "I", Cond.fieldLink RX1 28 "PegClerks$Drum" "fallenOut" "I", Cond.methodLink RX0 39 yX4_copyFrom, Cond.instanceMethod yX4_copyFrom, Cond.selects RX4 yX4_copyFrom yX4_copyFrom, Cond.initialized RX4, Cond.code yX4_copyFrom cX4_copyFrom 2 none, Cond.fieldLink RX4 9 "PegClerks$Stamps" "inks" "[I", Cond.methodLink RX4 24 arraycopyName, Cond.fieldLink RX4 15 "PegClerks$Stamps" "marks" "[I", Cond.fieldLink RX4 18 "PegClerks$Stamps" "dryFalls" "[I", Cond.fieldLink RX4 21 "PegClerks$Stamps" "spoilings" "[I", Cond.methodLink RX5 71 yX1_giveRow, Cond.instanceMethod yX1_giveRow]
def wsX5_rightWithRow_r3 : List Cond := [Cond.selects RX1 yX1_giveRow yX1_giveRow, Cond.code yX1_giveRow cX1_giveRow 4 none, Cond.methodLink RX1 40 yX1_hasPeg, Cond.instanceMethod yX1_hasPeg, Cond.selects RX1 yX1_hasPeg yX1_hasPeg, Cond.code yX1_hasPeg cX1_hasPeg 3 (some .boolean), Cond.methodLink RX5 100 yX0_makeSteps, Cond.instanceMethod yX0_makeSteps, Cond.selects RX0 yX0_makeSteps yX0_makeSteps, Cond.code yX0_makeSteps cX0_makeSteps 3 (some .int), Cond.methodLink RX0 78 yX0_makeOneStep, Cond.instanceMethod yX0_makeOneStep, Cond.selects RX0 yX0_makeOneStep yX0_makeOneStep, Cond.code yX0_makeOneStep cX0_makeOneStep 1 (some .boolean), Cond.fieldLink RX0 82 "PegClerks$Drum" "at" "I", Cond.fieldLink RX0 89 "PegClerks$Drum" "rows" "[I", Cond.methodLink RX0 85 yX0_wouldJamAt, Cond.instanceMethod yX0_wouldJamAt, Cond.selects RX0 yX0_wouldJamAt yX0_wouldJamAt, Cond.code yX0_wouldJamAt cX0_wouldJamAt 2 (some .boolean), Cond.methodLink RX0 74 yX1_pegsInRow, Cond.instanceMethod yX1_pegsInRow, Cond.selects RX1 yX1_pegsInRow yX1_pegsInRow, Cond.code yX1_pegsInRow cX1_pegsInRow 2 (some .int)]
def wsX5_rightWithRow_r4 : List Cond := [Cond.methodLink RX1 35 yJ6_bitCount_0f7a4, Cond.static yJ6_bitCount_0f7a4, Cond.initialized RJ6, Cond.code yJ6_bitCount_0f7a4 cJ6_bitCount_0f7a4 1 (some .int), Cond.constant RJ6 265 (1431655765), Cond.constant RJ6 266 (858993459), Cond.constant RJ6 267 (252645135), Cond.methodLink RX0 92 yX0_letStampsFall, Cond.instanceMethod yX0_letStampsFall, Cond.selects RX0 yX0_letStampsFall yX0_letStampsFall, Cond.code yX0_letStampsFall cX0_letStampsFall 3 none, Cond.methodLink RX0 102 yX0_letStampFall, Cond.instanceMethod yX0_letStampFall, Cond.selects RX0 yX0_letStampFall yX0_letStampFall, Cond.code yX0_letStampFall cX0_letStampFall 2 none, Cond.fieldLink RX0 109 "PegClerks$Stamps" "spoilings" "[I", Cond.methodLink RX0 112 yX4_leavesMark, Cond.instanceMethod yX4_leavesMark, Cond.selects RX4 yX4_leavesMark yX4_leavesMark, Cond.code yX4_leavesMark cX4_leavesMark 3 (some .boolean), Cond.methodLink RX0 105 yX1_wearPeg, Cond.instanceMethod yX1_wearPeg, Cond.selects RX1 yX1_wearPeg yX1_wearPeg, Cond.code yX1_wearPeg cX1_wearPeg 5 none]
def wsX5_rightWithRow_r5 : List Cond := [Cond.methodLink RX0 96 yX1_goOn, Cond.instanceMethod yX1_goOn, Cond.selects RX1 yX1_goOn yX1_goOn, Cond.code yX1_goOn cX1_goOn 1 none, Cond.methodLink RX1 31 yX1_rowBehind, Cond.static yX1_rowBehind, Cond.code yX1_rowBehind cX1_rowBehind 1 (some .int), Cond.methodLink RX0 99 yX0_finishForm, Cond.instanceMethod yX0_finishForm, Cond.selects RX0 yX0_finishForm yX0_finishForm, Cond.code yX0_finishForm cX0_finishForm 1 none, Cond.methodLink RX0 116 yX0_layForm, Cond.instanceMethod yX0_layForm, Cond.selects RX0 yX0_layForm yX0_layForm, Cond.code yX0_layForm cX0_layForm 1 none]
def wsX5_rightWithRow : List Cond := .code yX5_rightWithRow cX5_rightWithRow 3 (some .int) :: ((wsX5_rightWithRow_r1 ++ (wsX5_rightWithRow_r2 ++ (wsX5_rightWithRow_r3 ++ (wsX5_rightWithRow_r4 ++ wsX5_rightWithRow_r5)))) ++ wsX50 ++ wsX00 ++ wsX10 ++ wsX40)
def wsX5_bestOut_r1 : List Cond := [Cond.fieldLink RX5 10 "PegClerks" "clerk" "LPegClerks$Clerk;", Cond.fieldLink RX5 62 "PegClerks$Clerk" "drum" "LPegClerks$Drum;", Cond.fieldLink RX5 66 "PegClerks$Drum" "rows" "[I", Cond.methodLink RX5 194 yX5_ifStepped, Cond.instanceMethod yX5_ifStepped, Cond.selects RX5 yX5_ifStepped yX5_ifStepped, Cond.initialized RX5, Cond.code yX5_ifStepped cX5_ifStepped 4 (some .int), Cond.fieldLink RX5 16 "PegClerks" "trial" "LPegClerks$Clerk;", Cond.fieldLink RX5 167 "PegClerks$Clerk" "rightForms" "I", Cond.fieldLink RX5 170 "PegClerks$Clerk" "wrongForms" "I", Cond.fieldLink RX5 173 "PegClerks$Clerk" "spoiledForms" "I", Cond.fieldLink RX5 83 "PegClerks$Clerk" "stamps" "LPegClerks$Stamps;", Cond.methodLink RX5 191 yX0_copyFrom, Cond.instanceMethod yX0_copyFrom, Cond.selects RX0 yX0_copyFrom yX0_copyFrom, Cond.initialized RX0, Cond.code yX0_copyFrom cX0_copyFrom 2 none, Cond.fieldLink RX0 9 "PegClerks$Clerk" "settings" "[I", Cond.methodLink RX0 29 arraycopyName, Cond.native arraycopyName, Cond.static arraycopyName, Cond.initialized "java/lang/System", Cond.fieldLink RX0 18 "PegClerks$Clerk" "drum" "LPegClerks$Drum;"]
def wsX5_bestOut_r2 : List Cond := [Cond.fieldLink RX0 25 "PegClerks$Clerk" "stamps" "LPegClerks$Stamps;", Cond.fieldLink RX0 42 "PegClerks$Clerk" "jammed" "Z", Cond.fieldLink RX0 46 "PegClerks$Clerk" "order" "I", Cond.fieldLink RX0 50 "PegClerks$Clerk" "formStamps" "I", Cond.fieldLink RX0 53 "PegClerks$Clerk" "formSpoiled" "Z", Cond.fieldLink RX0 56 "PegClerks$Clerk" "formSteps" "I", Cond.fieldLink RX0 59 "PegClerks$Clerk" "steps" "I", Cond.fieldLink RX0 62 "PegClerks$Clerk" "rightForms" "I", Cond.fieldLink RX0 65 "PegClerks$Clerk" "wrongForms" "I", Cond.fieldLink RX0 68 "PegClerks$Clerk" "spoiledForms" "I", Cond.fieldLink RX0 71 "PegClerks$Clerk" "jams" "I", Cond.methodLink RX0 35 yX1_copyFrom, Cond.instanceMethod yX1_copyFrom, Cond.selects RX1 yX1_copyFrom yX1_copyFrom, Cond.initialized RX1, Cond.code yX1_copyFrom cX1_copyFrom 2 none, Cond.fieldLink RX1 9 "PegClerks$Drum" "rows" "[I", Cond.methodLink RX1 18 arraycopyName, Cond.fieldLink RX1 15 "PegClerks$Drum" "stampings" "[I", Cond.fieldLink RX1 24 "PegClerks$Drum" "at" "I", Cond.fieldLink RX1 28 "PegClerks$Drum" "fallenOut" "I", Cond.methodLink RX0 39 yX4_copyFrom, Cond.instanceMethod yX4_copyFrom, Cond.selects RX4 yX4_copyFrom yX4_copyFrom]
def wsX5_bestOut_r3 : List Cond := [Cond.initialized RX4, Cond.code yX4_copyFrom cX4_copyFrom 2 none, Cond.fieldLink RX4 9 "PegClerks$Stamps" "inks" "[I", Cond.methodLink RX4 24 arraycopyName, Cond.fieldLink RX4 15 "PegClerks$Stamps" "marks" "[I", Cond.fieldLink RX4 18 "PegClerks$Stamps" "dryFalls" "[I", Cond.fieldLink RX4 21 "PegClerks$Stamps" "spoilings" "[I", Cond.methodLink RX5 100 yX0_makeSteps, Cond.instanceMethod yX0_makeSteps, Cond.selects RX0 yX0_makeSteps yX0_makeSteps, Cond.code yX0_makeSteps cX0_makeSteps 3 (some .int), Cond.methodLink RX0 78 yX0_makeOneStep, Cond.instanceMethod yX0_makeOneStep, Cond.selects RX0 yX0_makeOneStep yX0_makeOneStep, Cond.code yX0_makeOneStep cX0_makeOneStep 1 (some .boolean), Cond.fieldLink RX0 82 "PegClerks$Drum" "at" "I", Cond.fieldLink RX0 89 "PegClerks$Drum" "rows" "[I", Cond.methodLink RX0 85 yX0_wouldJamAt, Cond.instanceMethod yX0_wouldJamAt, Cond.selects RX0 yX0_wouldJamAt yX0_wouldJamAt, Cond.code yX0_wouldJamAt cX0_wouldJamAt 2 (some .boolean), Cond.methodLink RX0 74 yX1_pegsInRow, Cond.instanceMethod yX1_pegsInRow, Cond.selects RX1 yX1_pegsInRow yX1_pegsInRow]
def wsX5_bestOut_r4 : List Cond := [Cond.code yX1_pegsInRow cX1_pegsInRow 2 (some .int), Cond.methodLink RX1 35 yJ6_bitCount_0f7a4, Cond.static yJ6_bitCount_0f7a4, Cond.initialized RJ6, Cond.code yJ6_bitCount_0f7a4 cJ6_bitCount_0f7a4 1 (some .int), Cond.constant RJ6 265 (1431655765), Cond.constant RJ6 266 (858993459), Cond.constant RJ6 267 (252645135), Cond.methodLink RX0 92 yX0_letStampsFall, Cond.instanceMethod yX0_letStampsFall, Cond.selects RX0 yX0_letStampsFall yX0_letStampsFall, Cond.code yX0_letStampsFall cX0_letStampsFall 3 none, Cond.methodLink RX0 102 yX0_letStampFall, Cond.instanceMethod yX0_letStampFall, Cond.selects RX0 yX0_letStampFall yX0_letStampFall, Cond.code yX0_letStampFall cX0_letStampFall 2 none, Cond.fieldLink RX0 109 "PegClerks$Stamps" "spoilings" "[I", Cond.methodLink RX0 112 yX4_leavesMark, Cond.instanceMethod yX4_leavesMark, Cond.selects RX4 yX4_leavesMark yX4_leavesMark, Cond.code yX4_leavesMark cX4_leavesMark 3 (some .boolean), Cond.methodLink RX0 105 yX1_wearPeg, Cond.instanceMethod yX1_wearPeg, Cond.selects RX1 yX1_wearPeg yX1_wearPeg]
def wsX5_bestOut_r5 : List Cond := [Cond.code yX1_wearPeg cX1_wearPeg 5 none, Cond.methodLink RX0 96 yX1_goOn, Cond.instanceMethod yX1_goOn, Cond.selects RX1 yX1_goOn yX1_goOn, Cond.code yX1_goOn cX1_goOn 1 none, Cond.methodLink RX1 31 yX1_rowBehind, Cond.static yX1_rowBehind, Cond.code yX1_rowBehind cX1_rowBehind 1 (some .int), Cond.methodLink RX0 99 yX0_finishForm, Cond.instanceMethod yX0_finishForm, Cond.selects RX0 yX0_finishForm yX0_finishForm, Cond.code yX0_finishForm cX0_finishForm 1 none, Cond.methodLink RX0 116 yX0_layForm, Cond.instanceMethod yX0_layForm, Cond.selects RX0 yX0_layForm yX0_layForm, Cond.code yX0_layForm cX0_layForm 1 none, Cond.methodLink RX5 182 yX4_allMarks, Cond.instanceMethod yX4_allMarks, Cond.selects RX4 yX4_allMarks yX4_allMarks, Cond.code yX4_allMarks cX4_allMarks 3 (some .int), Cond.methodLink RX5 142 yX1_hasPeg, Cond.instanceMethod yX1_hasPeg, Cond.selects RX1 yX1_hasPeg yX1_hasPeg, Cond.code yX1_hasPeg cX1_hasPeg 3 (some .boolean)]
def wsX5_bestOut_r6 : List Cond := [Cond.methodLink RX5 197 yX5_rightWithRow, Cond.instanceMethod yX5_rightWithRow, Cond.selects RX5 yX5_rightWithRow yX5_rightWithRow, Cond.code yX5_rightWithRow cX5_rightWithRow 3 (some .int), Cond.methodLink RX5 71 yX1_giveRow, Cond.instanceMethod yX1_giveRow, Cond.selects RX1 yX1_giveRow yX1_giveRow, Cond.code yX1_giveRow cX1_giveRow 4 none, Cond.methodLink RX1 40 yX1_hasPeg]
def wsX5_bestOut : List Cond := .code yX5_bestOut cX5_bestOut 6 (some .int) :: ((wsX5_bestOut_r1 ++ (wsX5_bestOut_r2 ++ (wsX5_bestOut_r3 ++ (wsX5_bestOut_r4 ++ (wsX5_bestOut_r5 ++ wsX5_bestOut_r6))))) ++ wsX50 ++ wsX00 ++ wsX10 ++ wsX40)
def wsX5_nextStampsByStep : List Cond := .code yX5_nextStampsByStep cX5_nextStampsByStep 5 (some .int) :: ([.fieldLink RX5 10 "PegClerks" "clerk" "LPegClerks$Clerk;", .fieldLink RX5 62 "PegClerks$Clerk" "drum" "LPegClerks$Drum;", .fieldLink RX5 103 "PegClerks$Drum" "at" "I", .fieldLink RX5 52 "PegClerks$Clerk" "settings" "[I", .methodLink RX5 142 yX1_hasPeg, .instanceMethod yX1_hasPeg, .selects RX1 yX1_hasPeg yX1_hasPeg, .initialized RX1, .code yX1_hasPeg cX1_hasPeg 3 (some .boolean), .fieldLink RX1 9 "PegClerks$Drum" "rows" "[I", .methodLink RX5 217 yX1_rowBehind, .static yX1_rowBehind, .code yX1_rowBehind cX1_rowBehind 1 (some .int)] ++ wsX50 ++ wsX00 ++ wsX10)
def wsX5_nextStampsByPegs : List Cond := .code yX5_nextStampsByPegs cX5_nextStampsByPegs 3 (some .int) :: ([.fieldLink RX5 10 "PegClerks" "clerk" "LPegClerks$Clerk;", .fieldLink RX5 52 "PegClerks$Clerk" "settings" "[I", .fieldLink RX5 62 "PegClerks$Clerk" "drum" "LPegClerks$Drum;", .fieldLink RX5 66 "PegClerks$Drum" "rows" "[I", .fieldLink RX5 103 "PegClerks$Drum" "at" "I", .methodLink RX5 136 yJ9_floorMod_7cf53, .static yJ9_floorMod_7cf53, .initialized RJ9, .code yJ9_floorMod_7cf53 cJ9_floorMod_7cf53 3 (some .int)] ++ wsX50 ++ wsX00 ++ wsX10)
def wsX5_nextStamps_r1 : List Cond := [Cond.methodLink RX5 200 yX5_nextStampsByStep, Cond.instanceMethod yX5_nextStampsByStep, Cond.selects RX5 yX5_nextStampsByStep yX5_nextStampsByStep, Cond.initialized RX5, Cond.code yX5_nextStampsByStep cX5_nextStampsByStep 5 (some .int), Cond.fieldLink RX5 10 "PegClerks" "clerk" "LPegClerks$Clerk;", Cond.fieldLink RX5 62 "PegClerks$Clerk" "drum" "LPegClerks$Drum;", Cond.fieldLink RX5 103 "PegClerks$Drum" "at" "I", Cond.fieldLink RX5 52 "PegClerks$Clerk" "settings" "[I", Cond.methodLink RX5 142 yX1_hasPeg, Cond.instanceMethod yX1_hasPeg, Cond.selects RX1 yX1_hasPeg yX1_hasPeg, Cond.initialized RX1, Cond.code yX1_hasPeg cX1_hasPeg 3 (some .boolean), Cond.fieldLink RX1 9 "PegClerks$Drum" "rows" "[I", Cond.methodLink RX5 217 yX1_rowBehind, Cond.static yX1_rowBehind, Cond.code yX1_rowBehind cX1_rowBehind 1 (some .int), Cond.methodLink RX5 203 yX5_nextStampsByPegs, Cond.instanceMethod yX5_nextStampsByPegs, Cond.selects RX5 yX5_nextStampsByPegs yX5_nextStampsByPegs, Cond.code yX5_nextStampsByPegs cX5_nextStampsByPegs 3 (some .int), Cond.fieldLink RX5 66 "PegClerks$Drum" "rows" "[I", Cond.methodLink RX5 136 yJ9_floorMod_7cf53]
def wsX5_nextStamps_r2 : List Cond := [Cond.static yJ9_floorMod_7cf53, Cond.initialized RJ9, Cond.code yJ9_floorMod_7cf53 cJ9_floorMod_7cf53 3 (some .int)]
def wsX5_nextStamps : List Cond := .code yX5_nextStamps cX5_nextStamps 2 (some .int) :: ((wsX5_nextStamps_r1 ++ wsX5_nextStamps_r2) ++ wsX50 ++ wsX00 ++ wsX10)
def wsX5_put : List Cond := .code yX5_put cX5_put 4 (some .int) :: ([.fieldLink RX5 29 "PegClerks" "pad" "LPegClerks$Pad;", .fieldLink RX5 185 "PegClerks$Pad" "length" "I", .methodLink RX5 206 yX3_charactersIn, .static yX3_charactersIn, .initialized RX3, .code yX3_charactersIn cX3_charactersIn 6 (some .int), .constantLong RX3 15 (255), .methodLink RX5 210 yX3_append, .instanceMethod yX3_append, .selects RX3 yX3_append yX3_append, .code yX3_append cX3_append 5 none, .fieldLink RX3 11 "PegClerks$Pad" "signs" "[C", .fieldLink RX3 17 "PegClerks$Pad" "length" "I"] ++ wsX50 ++ wsX30)
def wsX5_wipe : List Cond := .code yX5_wipe cX5_wipe 2 (some .int) :: ([.fieldLink RX5 29 "PegClerks" "pad" "LPegClerks$Pad;", .fieldLink RX5 185 "PegClerks$Pad" "length" "I", .methodLink RX5 123 yX3_empty, .instanceMethod yX3_empty, .selects RX3 yX3_empty yX3_empty, .initialized RX3, .code yX3_empty cX3_empty 1 none, .fieldLink RX3 17 "PegClerks$Pad" "length" "I"] ++ wsX50 ++ wsX30)
def wsX5_fault : List Cond := .code yX5_fault cX5_fault 1 (some .int) :: ([.fieldLink RX5 29 "PegClerks" "pad" "LPegClerks$Pad;", .methodLink RX5 115 yX3_firstFault, .instanceMethod yX3_firstFault, .selects RX3 yX3_firstFault yX3_firstFault, .initialized RX3, .code yX3_firstFault cX3_firstFault 3 (some .int), .fieldLink RX3 17 "PegClerks$Pad" "length" "I", .fieldLink RX3 11 "PegClerks$Pad" "signs" "[C", .methodLink RX3 21 yX3_dueBehind, .static yX3_dueBehind, .code yX3_dueBehind cX3_dueBehind 2 (some .int), .methodLink RX3 25 yX3_dueBehindPlaces, .static yX3_dueBehindPlaces, .code yX3_dueBehindPlaces cX3_dueBehindPlaces 3 (some .int), .static yX5_isPlace, .initialized RX5, .code yX5_isPlace cX5_isPlace 1 (some .boolean)] ++ wsX50 ++ wsX30)
def wsX5_undo_r1 : List Cond := [Cond.fieldLink RX5 22 "PegClerks" "history" "LPegClerks$History;", Cond.fieldLink RX5 188 "PegClerks$History" "kept" "I", Cond.fieldLink RX5 10 "PegClerks" "clerk" "LPegClerks$Clerk;", Cond.methodLink RX5 214 yX2_takeBack, Cond.instanceMethod yX2_takeBack, Cond.selects RX2 yX2_takeBack yX2_takeBack, Cond.initialized RX2, Cond.code yX2_takeBack cX2_takeBack 2 none, Cond.fieldLink RX2 16 "PegClerks$History" "next" "I", Cond.fieldLink RX2 24 "PegClerks$History" "kept" "I", Cond.fieldLink RX2 10 "PegClerks$History" "states" "[LPegClerks$Clerk;", Cond.methodLink RX2 20 yX0_copyFrom, Cond.instanceMethod yX0_copyFrom, Cond.selects RX0 yX0_copyFrom yX0_copyFrom, Cond.initialized RX0, Cond.code yX0_copyFrom cX0_copyFrom 2 none, Cond.fieldLink RX0 9 "PegClerks$Clerk" "settings" "[I", Cond.methodLink RX0 29 arraycopyName, Cond.native arraycopyName, Cond.static arraycopyName, Cond.initialized "java/lang/System", Cond.fieldLink RX0 18 "PegClerks$Clerk" "drum" "LPegClerks$Drum;", Cond.fieldLink RX0 25 "PegClerks$Clerk" "stamps" "LPegClerks$Stamps;", Cond.fieldLink RX0 42 "PegClerks$Clerk" "jammed" "Z"]
def wsX5_undo_r2 : List Cond := [Cond.fieldLink RX0 46 "PegClerks$Clerk" "order" "I", Cond.fieldLink RX0 50 "PegClerks$Clerk" "formStamps" "I", Cond.fieldLink RX0 53 "PegClerks$Clerk" "formSpoiled" "Z", Cond.fieldLink RX0 56 "PegClerks$Clerk" "formSteps" "I", Cond.fieldLink RX0 59 "PegClerks$Clerk" "steps" "I", Cond.fieldLink RX0 62 "PegClerks$Clerk" "rightForms" "I", Cond.fieldLink RX0 65 "PegClerks$Clerk" "wrongForms" "I", Cond.fieldLink RX0 68 "PegClerks$Clerk" "spoiledForms" "I", Cond.fieldLink RX0 71 "PegClerks$Clerk" "jams" "I", Cond.methodLink RX0 35 yX1_copyFrom, Cond.instanceMethod yX1_copyFrom, Cond.selects RX1 yX1_copyFrom yX1_copyFrom, Cond.initialized RX1, Cond.code yX1_copyFrom cX1_copyFrom 2 none, Cond.fieldLink RX1 9 "PegClerks$Drum" "rows" "[I", Cond.methodLink RX1 18 arraycopyName, Cond.fieldLink RX1 15 "PegClerks$Drum" "stampings" "[I", Cond.fieldLink RX1 24 "PegClerks$Drum" "at" "I", Cond.fieldLink RX1 28 "PegClerks$Drum" "fallenOut" "I", Cond.methodLink RX0 39 yX4_copyFrom, Cond.instanceMethod yX4_copyFrom, Cond.selects RX4 yX4_copyFrom yX4_copyFrom, Cond.initialized RX4, Cond.code yX4_copyFrom cX4_copyFrom 2 none]
def wsX5_undo_r3 : List Cond := [Cond.fieldLink RX4 9 "PegClerks$Stamps" "inks" "[I", Cond.methodLink RX4 24 arraycopyName, Cond.fieldLink RX4 15 "PegClerks$Stamps" "marks" "[I", Cond.fieldLink RX4 18 "PegClerks$Stamps" "dryFalls" "[I", Cond.fieldLink RX4 21 "PegClerks$Stamps" "spoilings" "[I"]
def wsX5_undo : List Cond := .code yX5_undo cX5_undo 1 (some .int) :: ((wsX5_undo_r1 ++ (wsX5_undo_r2 ++ wsX5_undo_r3)) ++ wsX50 ++ wsX20 ++ wsX00 ++ wsX10 ++ wsX40)
def wsX5_save_r1 : List Cond := [Cond.fieldLink RX5 33 "PegClerks" "slots" "[LPegClerks$Clerk;", Cond.fieldLink RX5 10 "PegClerks" "clerk" "LPegClerks$Clerk;", Cond.fieldLink RX5 37 "PegClerks" "saved" "[Z", Cond.fieldLink RX5 62 "PegClerks$Clerk" "drum" "LPegClerks$Drum;", Cond.methodLink RX5 191 yX0_copyFrom, Cond.instanceMethod yX0_copyFrom, Cond.selects RX0 yX0_copyFrom yX0_copyFrom, Cond.initialized RX0, Cond.code yX0_copyFrom cX0_copyFrom 2 none, Cond.fieldLink RX0 9 "PegClerks$Clerk" "settings" "[I", Cond.methodLink RX0 29 arraycopyName, Cond.native arraycopyName, Cond.static arraycopyName, Cond.initialized "java/lang/System", Cond.fieldLink RX0 18 "PegClerks$Clerk" "drum" "LPegClerks$Drum;", Cond.fieldLink RX0 25 "PegClerks$Clerk" "stamps" "LPegClerks$Stamps;", Cond.fieldLink RX0 42 "PegClerks$Clerk" "jammed" "Z", Cond.fieldLink RX0 46 "PegClerks$Clerk" "order" "I", Cond.fieldLink RX0 50 "PegClerks$Clerk" "formStamps" "I", Cond.fieldLink RX0 53 "PegClerks$Clerk" "formSpoiled" "Z", Cond.fieldLink RX0 56 "PegClerks$Clerk" "formSteps" "I", Cond.fieldLink RX0 59 "PegClerks$Clerk" "steps" "I", Cond.fieldLink RX0 62 "PegClerks$Clerk" "rightForms" "I", Cond.fieldLink RX0 65 "PegClerks$Clerk" "wrongForms" "I"]
def wsX5_save_r2 : List Cond := [Cond.fieldLink RX0 68 "PegClerks$Clerk" "spoiledForms" "I", Cond.fieldLink RX0 71 "PegClerks$Clerk" "jams" "I", Cond.methodLink RX0 35 yX1_copyFrom, Cond.instanceMethod yX1_copyFrom, Cond.selects RX1 yX1_copyFrom yX1_copyFrom, Cond.initialized RX1, Cond.code yX1_copyFrom cX1_copyFrom 2 none, Cond.fieldLink RX1 9 "PegClerks$Drum" "rows" "[I", Cond.methodLink RX1 18 arraycopyName, Cond.fieldLink RX1 15 "PegClerks$Drum" "stampings" "[I", Cond.fieldLink RX1 24 "PegClerks$Drum" "at" "I", Cond.fieldLink RX1 28 "PegClerks$Drum" "fallenOut" "I", Cond.methodLink RX0 39 yX4_copyFrom, Cond.instanceMethod yX4_copyFrom, Cond.selects RX4 yX4_copyFrom yX4_copyFrom, Cond.initialized RX4, Cond.code yX4_copyFrom cX4_copyFrom 2 none, Cond.fieldLink RX4 9 "PegClerks$Stamps" "inks" "[I", Cond.methodLink RX4 24 arraycopyName, Cond.fieldLink RX4 15 "PegClerks$Stamps" "marks" "[I", Cond.fieldLink RX4 18 "PegClerks$Stamps" "dryFalls" "[I", Cond.fieldLink RX4 21 "PegClerks$Stamps" "spoilings" "[I", Cond.methodLink RX5 126 yX1_allPegs, Cond.instanceMethod yX1_allPegs]
def wsX5_save_r3 : List Cond := [Cond.selects RX1 yX1_allPegs yX1_allPegs, Cond.code yX1_allPegs cX1_allPegs 3 (some .int), Cond.methodLink RX1 44 yX1_pegsInRow, Cond.instanceMethod yX1_pegsInRow, Cond.selects RX1 yX1_pegsInRow yX1_pegsInRow, Cond.code yX1_pegsInRow cX1_pegsInRow 2 (some .int), Cond.methodLink RX1 35 yJ6_bitCount_0f7a4, Cond.static yJ6_bitCount_0f7a4, Cond.initialized RJ6, Cond.code yJ6_bitCount_0f7a4 cJ6_bitCount_0f7a4 1 (some .int), Cond.constant RJ6 265 (1431655765), Cond.constant RJ6 266 (858993459), Cond.constant RJ6 267 (252645135)]
def wsX5_save : List Cond := .code yX5_save cX5_save 2 (some .int) :: ((wsX5_save_r1 ++ (wsX5_save_r2 ++ wsX5_save_r3)) ++ wsX50 ++ wsX00 ++ wsX10 ++ wsX40)
def wsX5_restore_r1 : List Cond := [Cond.fieldLink RX5 37 "PegClerks" "saved" "[Z", Cond.fieldLink RX5 22 "PegClerks" "history" "LPegClerks$History;", Cond.fieldLink RX5 10 "PegClerks" "clerk" "LPegClerks$Clerk;", Cond.fieldLink RX5 33 "PegClerks" "slots" "[LPegClerks$Clerk;", Cond.fieldLink RX5 62 "PegClerks$Clerk" "drum" "LPegClerks$Drum;", Cond.methodLink RX5 48 yX2_keep, Cond.instanceMethod yX2_keep, Cond.selects RX2 yX2_keep yX2_keep, Cond.initialized RX2, Cond.code yX2_keep cX2_keep 2 none, Cond.fieldLink RX2 10 "PegClerks$History" "states" "[LPegClerks$Clerk;", Cond.fieldLink RX2 16 "PegClerks$History" "next" "I", Cond.fieldLink RX2 24 "PegClerks$History" "kept" "I", Cond.methodLink RX2 27 Lib.Math.min.name, Cond.static Lib.Math.min.name, Cond.initialized "java/lang/Math", Cond.code Lib.Math.min.name Lib.Math.min.code 2 (some .int), Cond.methodLink RX2 20 yX0_copyFrom, Cond.instanceMethod yX0_copyFrom, Cond.selects RX0 yX0_copyFrom yX0_copyFrom, Cond.initialized RX0, Cond.code yX0_copyFrom cX0_copyFrom 2 none, Cond.fieldLink RX0 9 "PegClerks$Clerk" "settings" "[I", Cond.methodLink RX0 29 arraycopyName]
def wsX5_restore_r2 : List Cond := [Cond.native arraycopyName, Cond.static arraycopyName, Cond.initialized "java/lang/System", Cond.fieldLink RX0 18 "PegClerks$Clerk" "drum" "LPegClerks$Drum;", Cond.fieldLink RX0 25 "PegClerks$Clerk" "stamps" "LPegClerks$Stamps;", Cond.fieldLink RX0 42 "PegClerks$Clerk" "jammed" "Z", Cond.fieldLink RX0 46 "PegClerks$Clerk" "order" "I", Cond.fieldLink RX0 50 "PegClerks$Clerk" "formStamps" "I", Cond.fieldLink RX0 53 "PegClerks$Clerk" "formSpoiled" "Z", Cond.fieldLink RX0 56 "PegClerks$Clerk" "formSteps" "I", Cond.fieldLink RX0 59 "PegClerks$Clerk" "steps" "I", Cond.fieldLink RX0 62 "PegClerks$Clerk" "rightForms" "I", Cond.fieldLink RX0 65 "PegClerks$Clerk" "wrongForms" "I", Cond.fieldLink RX0 68 "PegClerks$Clerk" "spoiledForms" "I", Cond.fieldLink RX0 71 "PegClerks$Clerk" "jams" "I", Cond.methodLink RX0 35 yX1_copyFrom, Cond.instanceMethod yX1_copyFrom, Cond.selects RX1 yX1_copyFrom yX1_copyFrom, Cond.initialized RX1, Cond.code yX1_copyFrom cX1_copyFrom 2 none, Cond.fieldLink RX1 9 "PegClerks$Drum" "rows" "[I", Cond.methodLink RX1 18 arraycopyName, Cond.fieldLink RX1 15 "PegClerks$Drum" "stampings" "[I", Cond.fieldLink RX1 24 "PegClerks$Drum" "at" "I"]
def wsX5_restore_r3 : List Cond := [Cond.fieldLink RX1 28 "PegClerks$Drum" "fallenOut" "I", Cond.methodLink RX0 39 yX4_copyFrom, Cond.instanceMethod yX4_copyFrom, Cond.selects RX4 yX4_copyFrom yX4_copyFrom, Cond.initialized RX4, Cond.code yX4_copyFrom cX4_copyFrom 2 none, Cond.fieldLink RX4 9 "PegClerks$Stamps" "inks" "[I", Cond.methodLink RX4 24 arraycopyName, Cond.fieldLink RX4 15 "PegClerks$Stamps" "marks" "[I", Cond.fieldLink RX4 18 "PegClerks$Stamps" "dryFalls" "[I", Cond.fieldLink RX4 21 "PegClerks$Stamps" "spoilings" "[I", Cond.methodLink RX5 191 yX0_copyFrom, Cond.methodLink RX5 126 yX1_allPegs, Cond.instanceMethod yX1_allPegs, Cond.selects RX1 yX1_allPegs yX1_allPegs, Cond.code yX1_allPegs cX1_allPegs 3 (some .int), Cond.methodLink RX1 44 yX1_pegsInRow, Cond.instanceMethod yX1_pegsInRow, Cond.selects RX1 yX1_pegsInRow yX1_pegsInRow, Cond.code yX1_pegsInRow cX1_pegsInRow 2 (some .int), Cond.methodLink RX1 35 yJ6_bitCount_0f7a4, Cond.static yJ6_bitCount_0f7a4, Cond.initialized RJ6, Cond.code yJ6_bitCount_0f7a4 cJ6_bitCount_0f7a4 1 (some .int)]
def wsX5_restore_r4 : List Cond := [Cond.constant RJ6 265 (1431655765), Cond.constant RJ6 266 (858993459), Cond.constant RJ6 267 (252645135)]
def wsX5_restore : List Cond := .code yX5_restore cX5_restore 2 (some .int) :: ((wsX5_restore_r1 ++ (wsX5_restore_r2 ++ (wsX5_restore_r3 ++ wsX5_restore_r4))) ++ wsX50 ++ wsX00 ++ wsX20 ++ wsX10 ++ wsX40)
def wsX6_init : List Cond := .code yX6_init cX6_init 2 none :: ([.methodLink RX6 1 objectInit, .instanceMethod objectInit, .code objectInit ⟨#[0xb1]⟩ 1 none, .arrayClass .int, .fieldLink RX6 7 "PegClerksModel" "all" "[I", .fieldLink RX6 13 "PegClerksModel" "kept" "[I", .fieldLink RX6 16 "PegClerksModel" "history" "[I", .fieldLink RX6 19 "PegClerksModel" "slots" "[I", .fieldLink RX6 22 "PegClerksModel" "isSaved" "[I", .fieldLink RX6 25 "PegClerksModel" "text" "[I", .fieldLink RX6 28 "PegClerksModel" "toldRows" "[I", .fieldLink RX6 31 "PegClerksModel" "toldSets" "[I"] ++ wsX60)
def wsX6_in : List Cond := .code yX6_in cX6_in 6 (some .boolean) :: ([])
def wsX6_changes : List Cond := .code yX6_changes cX6_changes 2 none :: ([.fieldLink RX6 34 "PegClerksModel" "historyLong" "I", .fieldLink RX6 16 "PegClerksModel" "history" "[I", .fieldLink RX6 7 "PegClerksModel" "all" "[I"] ++ wsX60)
def wsX6_keeps : List Cond := .code yX6_keeps cX6_keeps 2 none :: ([.fieldLink RX6 13 "PegClerksModel" "kept" "[I", .fieldLink RX6 7 "PegClerksModel" "all" "[I"] ++ wsX60)
def wsX6_comesBack : List Cond := .code yX6_comesBack cX6_comesBack 2 none :: ([.fieldLink RX6 7 "PegClerksModel" "all" "[I", .fieldLink RX6 13 "PegClerksModel" "kept" "[I"] ++ wsX60)
def wsX6_isRow : List Cond := .code yX6_isRow cX6_isRow 1 (some .boolean) :: ([.constantLong RX6 38 (15), .methodLink RX6 40 yX6_in, .static yX6_in, .initialized RX6, .code yX6_in cX6_in 6 (some .boolean)])
def wsX6_isPlace : List Cond := .code yX6_isPlace cX6_isPlace 1 (some .boolean) :: ([.constantLong RX6 44 (5), .methodLink RX6 40 yX6_in, .static yX6_in, .initialized RX6, .code yX6_in cX6_in 6 (some .boolean)])
def wsX6_at : List Cond := .code yX6_at cX6_at 2 (some .int) :: ([])
def wsX6_hasPeg : List Cond := .code yX6_hasPeg cX6_hasPeg 3 (some .boolean) :: ([.fieldLink RX6 7 "PegClerksModel" "all" "[I", .methodLink RX6 46 yX6_at, .static yX6_at, .initialized RX6, .code yX6_at cX6_at 2 (some .int)] ++ wsX60)
def wsX6_pegsIn : List Cond := .code yX6_pegsIn cX6_pegsIn 4 (some .int) :: ([.methodLink RX6 50 yX6_hasPeg, .instanceMethod yX6_hasPeg, .selects RX6 yX6_hasPeg yX6_hasPeg, .initialized RX6, .code yX6_hasPeg cX6_hasPeg 3 (some .boolean), .fieldLink RX6 7 "PegClerksModel" "all" "[I", .methodLink RX6 46 yX6_at, .static yX6_at, .code yX6_at cX6_at 2 (some .int)] ++ wsX60)
def wsX6_setIn : List Cond := .code yX6_setIn cX6_setIn 4 (some .int) :: ([.methodLink RX6 50 yX6_hasPeg, .instanceMethod yX6_hasPeg, .selects RX6 yX6_hasPeg yX6_hasPeg, .initialized RX6, .code yX6_hasPeg cX6_hasPeg 3 (some .boolean), .fieldLink RX6 7 "PegClerksModel" "all" "[I", .methodLink RX6 46 yX6_at, .static yX6_at, .code yX6_at cX6_at 2 (some .int)] ++ wsX60)
def wsX6_pegs : List Cond := .code yX6_pegs cX6_pegs 3 (some .int) :: ([.methodLink RX6 54 yX6_pegsIn, .instanceMethod yX6_pegsIn, .selects RX6 yX6_pegsIn yX6_pegsIn, .initialized RX6, .code yX6_pegsIn cX6_pegsIn 4 (some .int), .methodLink RX6 50 yX6_hasPeg, .instanceMethod yX6_hasPeg, .selects RX6 yX6_hasPeg yX6_hasPeg, .code yX6_hasPeg cX6_hasPeg 3 (some .boolean), .fieldLink RX6 7 "PegClerksModel" "all" "[I", .methodLink RX6 46 yX6_at, .static yX6_at, .code yX6_at cX6_at 2 (some .int)] ++ wsX60)
def wsX6_wouldJam : List Cond := .code yX6_wouldJam cX6_wouldJam 2 (some .boolean) :: ([.fieldLink RX6 7 "PegClerksModel" "all" "[I", .methodLink RX6 54 yX6_pegsIn, .instanceMethod yX6_pegsIn, .selects RX6 yX6_pegsIn yX6_pegsIn, .initialized RX6, .code yX6_pegsIn cX6_pegsIn 4 (some .int), .methodLink RX6 50 yX6_hasPeg, .instanceMethod yX6_hasPeg, .selects RX6 yX6_hasPeg yX6_hasPeg, .code yX6_hasPeg cX6_hasPeg 3 (some .boolean), .methodLink RX6 46 yX6_at, .static yX6_at, .code yX6_at cX6_at 2 (some .int)] ++ wsX60)
def wsX6_newOne : List Cond := .code yX6_newOne cX6_newOne 1 none :: ([.fieldLink RX6 7 "PegClerksModel" "all" "[I"] ++ wsX60)
def wsX6_falls : List Cond := .code yX6_falls cX6_falls 2 none :: ([.fieldLink RX6 7 "PegClerksModel" "all" "[I"] ++ wsX60)
def wsX6_wears : List Cond := .code yX6_wears cX6_wears 3 none :: ([.fieldLink RX6 7 "PegClerksModel" "all" "[I", .methodLink RX6 46 yX6_at, .static yX6_at, .initialized RX6, .code yX6_at cX6_at 2 (some .int)] ++ wsX60)
def wsX6_lies : List Cond := .code yX6_lies cX6_lies 1 none :: ([.fieldLink RX6 7 "PegClerksModel" "all" "[I", .methodLink RX6 58 yX6_newOne, .instanceMethod yX6_newOne, .selects RX6 yX6_newOne yX6_newOne, .initialized RX6, .code yX6_newOne cX6_newOne 1 none] ++ wsX60)
def wsX6_steps_r1 : List Cond := [Cond.fieldLink RX6 7 "PegClerksModel" "all" "[I", Cond.methodLink RX6 61 yX6_wouldJam, Cond.instanceMethod yX6_wouldJam, Cond.selects RX6 yX6_wouldJam yX6_wouldJam, Cond.initialized RX6, Cond.code yX6_wouldJam cX6_wouldJam 2 (some .boolean), Cond.methodLink RX6 54 yX6_pegsIn, Cond.instanceMethod yX6_pegsIn, Cond.selects RX6 yX6_pegsIn yX6_pegsIn, Cond.code yX6_pegsIn cX6_pegsIn 4 (some .int), Cond.methodLink RX6 50 yX6_hasPeg, Cond.instanceMethod yX6_hasPeg, Cond.selects RX6 yX6_hasPeg yX6_hasPeg, Cond.code yX6_hasPeg cX6_hasPeg 3 (some .boolean), Cond.methodLink RX6 46 yX6_at, Cond.static yX6_at, Cond.code yX6_at cX6_at 2 (some .int), Cond.methodLink RX6 65 yX6_falls, Cond.instanceMethod yX6_falls, Cond.selects RX6 yX6_falls yX6_falls, Cond.code yX6_falls cX6_falls 2 none, Cond.methodLink RX6 69 yX6_wears, Cond.instanceMethod yX6_wears, Cond.selects RX6 yX6_wears yX6_wears]
def wsX6_steps_r2 : List Cond := [Cond.code yX6_wears cX6_wears 3 none, Cond.methodLink RX6 73 yX6_lies, Cond.instanceMethod yX6_lies, Cond.selects RX6 yX6_lies yX6_lies, Cond.code yX6_lies cX6_lies 1 none, Cond.methodLink RX6 58 yX6_newOne, Cond.instanceMethod yX6_newOne, Cond.selects RX6 yX6_newOne yX6_newOne, Cond.code yX6_newOne cX6_newOne 1 none]
def wsX6_steps : List Cond := .code yX6_steps cX6_steps 3 (some .boolean) :: ((wsX6_steps_r1 ++ wsX6_steps_r2) ++ wsX60)
def wsX6_stepsUpTo_r1 : List Cond := [Cond.methodLink RX6 76 yX6_steps, Cond.instanceMethod yX6_steps, Cond.selects RX6 yX6_steps yX6_steps, Cond.initialized RX6, Cond.code yX6_steps cX6_steps 3 (some .boolean), Cond.fieldLink RX6 7 "PegClerksModel" "all" "[I", Cond.methodLink RX6 61 yX6_wouldJam, Cond.instanceMethod yX6_wouldJam, Cond.selects RX6 yX6_wouldJam yX6_wouldJam, Cond.code yX6_wouldJam cX6_wouldJam 2 (some .boolean), Cond.methodLink RX6 54 yX6_pegsIn, Cond.instanceMethod yX6_pegsIn, Cond.selects RX6 yX6_pegsIn yX6_pegsIn, Cond.code yX6_pegsIn cX6_pegsIn 4 (some .int), Cond.methodLink RX6 50 yX6_hasPeg, Cond.instanceMethod yX6_hasPeg, Cond.selects RX6 yX6_hasPeg yX6_hasPeg, Cond.code yX6_hasPeg cX6_hasPeg 3 (some .boolean), Cond.methodLink RX6 46 yX6_at, Cond.static yX6_at, Cond.code yX6_at cX6_at 2 (some .int), Cond.methodLink RX6 65 yX6_falls, Cond.instanceMethod yX6_falls, Cond.selects RX6 yX6_falls yX6_falls]
def wsX6_stepsUpTo_r2 : List Cond := [Cond.code yX6_falls cX6_falls 2 none, Cond.methodLink RX6 69 yX6_wears, Cond.instanceMethod yX6_wears, Cond.selects RX6 yX6_wears yX6_wears, Cond.code yX6_wears cX6_wears 3 none, Cond.methodLink RX6 73 yX6_lies, Cond.instanceMethod yX6_lies, Cond.selects RX6 yX6_lies yX6_lies, Cond.code yX6_lies cX6_lies 1 none, Cond.methodLink RX6 58 yX6_newOne, Cond.instanceMethod yX6_newOne, Cond.selects RX6 yX6_newOne yX6_newOne, Cond.code yX6_newOne cX6_newOne 1 none]
def wsX6_stepsUpTo : List Cond := .code yX6_stepsUpTo cX6_stepsUpTo 3 (some .int) :: ((wsX6_stepsUpTo_r1 ++ wsX6_stepsUpTo_r2) ++ wsX60)
def wsX6_isSetting : List Cond := .code yX6_isSetting cX6_isSetting 2 (some .boolean) :: ([.constantLong RX6 80 (8), .constantLong RX6 82 (9), .constantLong RX6 84 (99), .constantLong RX6 86 (4), .methodLink RX6 40 yX6_in, .static yX6_in, .initialized RX6, .code yX6_in cX6_in 6 (some .boolean)])
def wsX6_set : List Cond := .code yX6_set cX6_set 4 (some .int) :: ([.fieldLink RX6 7 "PegClerksModel" "all" "[I", .methodLink RX6 88 yX6_isSetting, .static yX6_isSetting, .initialized RX6, .code yX6_isSetting cX6_isSetting 2 (some .boolean), .constantLong RX6 80 (8), .constantLong RX6 82 (9), .constantLong RX6 84 (99), .constantLong RX6 86 (4), .methodLink RX6 40 yX6_in, .static yX6_in, .code yX6_in cX6_in 6 (some .boolean), .methodLink RX6 91 yX6_changes, .instanceMethod yX6_changes, .selects RX6 yX6_changes yX6_changes, .code yX6_changes cX6_changes 2 none, .fieldLink RX6 34 "PegClerksModel" "historyLong" "I", .fieldLink RX6 16 "PegClerksModel" "history" "[I"] ++ wsX60)
def wsX6_peg_r1 : List Cond := [Cond.fieldLink RX6 7 "PegClerksModel" "all" "[I", Cond.methodLink RX6 94 yX6_isRow, Cond.static yX6_isRow, Cond.initialized RX6, Cond.code yX6_isRow cX6_isRow 1 (some .boolean), Cond.constantLong RX6 38 (15), Cond.methodLink RX6 40 yX6_in, Cond.static yX6_in, Cond.code yX6_in cX6_in 6 (some .boolean), Cond.methodLink RX6 97 yX6_isPlace, Cond.static yX6_isPlace, Cond.code yX6_isPlace cX6_isPlace 1 (some .boolean), Cond.constantLong RX6 44 (5), Cond.methodLink RX6 91 yX6_changes, Cond.instanceMethod yX6_changes, Cond.selects RX6 yX6_changes yX6_changes, Cond.code yX6_changes cX6_changes 2 none, Cond.fieldLink RX6 34 "PegClerksModel" "historyLong" "I", Cond.fieldLink RX6 16 "PegClerksModel" "history" "[I", Cond.methodLink RX6 46 yX6_at, Cond.static yX6_at, Cond.code yX6_at cX6_at 2 (some .int), Cond.methodLink RX6 50 yX6_hasPeg, Cond.instanceMethod yX6_hasPeg]
def wsX6_peg_r2 : List Cond := [Cond.selects RX6 yX6_hasPeg yX6_hasPeg, Cond.code yX6_hasPeg cX6_hasPeg 3 (some .boolean), Cond.methodLink RX6 54 yX6_pegsIn, Cond.instanceMethod yX6_pegsIn, Cond.selects RX6 yX6_pegsIn yX6_pegsIn, Cond.code yX6_pegsIn cX6_pegsIn 4 (some .int)]
def wsX6_peg : List Cond := .code yX6_peg cX6_peg 3 (some .int) :: ((wsX6_peg_r1 ++ wsX6_peg_r2) ++ wsX60)
def wsX6_order : List Cond := .code yX6_order cX6_order 3 (some .int) :: ([.constantLong RX6 100 (63), .fieldLink RX6 7 "PegClerksModel" "all" "[I", .methodLink RX6 40 yX6_in, .static yX6_in, .initialized RX6, .code yX6_in cX6_in 6 (some .boolean), .methodLink RX6 91 yX6_changes, .instanceMethod yX6_changes, .selects RX6 yX6_changes yX6_changes, .code yX6_changes cX6_changes 2 none, .fieldLink RX6 34 "PegClerksModel" "historyLong" "I", .fieldLink RX6 16 "PegClerksModel" "history" "[I"] ++ wsX60)
def wsX6_ink : List Cond := .code yX6_ink cX6_ink 3 (some .int) :: ([.fieldLink RX6 7 "PegClerksModel" "all" "[I", .methodLink RX6 97 yX6_isPlace, .static yX6_isPlace, .initialized RX6, .code yX6_isPlace cX6_isPlace 1 (some .boolean), .constantLong RX6 44 (5), .methodLink RX6 40 yX6_in, .static yX6_in, .code yX6_in cX6_in 6 (some .boolean), .methodLink RX6 91 yX6_changes, .instanceMethod yX6_changes, .selects RX6 yX6_changes yX6_changes, .code yX6_changes cX6_changes 2 none, .fieldLink RX6 34 "PegClerksModel" "historyLong" "I", .fieldLink RX6 16 "PegClerksModel" "history" "[I"] ++ wsX60)
def wsX6_step_r1 : List Cond := [Cond.constantLong RX6 102 (200), Cond.fieldLink RX6 7 "PegClerksModel" "all" "[I", Cond.constant RX6 104 (99999), Cond.methodLink RX6 40 yX6_in, Cond.static yX6_in, Cond.initialized RX6, Cond.code yX6_in cX6_in 6 (some .boolean), Cond.methodLink RX6 91 yX6_changes, Cond.instanceMethod yX6_changes, Cond.selects RX6 yX6_changes yX6_changes, Cond.code yX6_changes cX6_changes 2 none, Cond.fieldLink RX6 34 "PegClerksModel" "historyLong" "I", Cond.fieldLink RX6 16 "PegClerksModel" "history" "[I", Cond.methodLink RX6 105 yX6_stepsUpTo, Cond.instanceMethod yX6_stepsUpTo, Cond.selects RX6 yX6_stepsUpTo yX6_stepsUpTo, Cond.code yX6_stepsUpTo cX6_stepsUpTo 3 (some .int), Cond.methodLink RX6 76 yX6_steps, Cond.instanceMethod yX6_steps, Cond.selects RX6 yX6_steps yX6_steps, Cond.code yX6_steps cX6_steps 3 (some .boolean), Cond.methodLink RX6 61 yX6_wouldJam, Cond.instanceMethod yX6_wouldJam, Cond.selects RX6 yX6_wouldJam yX6_wouldJam]
def wsX6_step_r2 : List Cond := [Cond.code yX6_wouldJam cX6_wouldJam 2 (some .boolean), Cond.methodLink RX6 54 yX6_pegsIn, Cond.instanceMethod yX6_pegsIn, Cond.selects RX6 yX6_pegsIn yX6_pegsIn, Cond.code yX6_pegsIn cX6_pegsIn 4 (some .int), Cond.methodLink RX6 50 yX6_hasPeg, Cond.instanceMethod yX6_hasPeg, Cond.selects RX6 yX6_hasPeg yX6_hasPeg, Cond.code yX6_hasPeg cX6_hasPeg 3 (some .boolean), Cond.methodLink RX6 46 yX6_at, Cond.static yX6_at, Cond.code yX6_at cX6_at 2 (some .int), Cond.methodLink RX6 65 yX6_falls, Cond.instanceMethod yX6_falls, Cond.selects RX6 yX6_falls yX6_falls, Cond.code yX6_falls cX6_falls 2 none, Cond.methodLink RX6 69 yX6_wears, Cond.instanceMethod yX6_wears, Cond.selects RX6 yX6_wears yX6_wears, Cond.code yX6_wears cX6_wears 3 none, Cond.methodLink RX6 73 yX6_lies, Cond.instanceMethod yX6_lies, Cond.selects RX6 yX6_lies yX6_lies, Cond.code yX6_lies cX6_lies 1 none]
def wsX6_step_r3 : List Cond := [Cond.methodLink RX6 58 yX6_newOne, Cond.instanceMethod yX6_newOne, Cond.selects RX6 yX6_newOne yX6_newOne, Cond.code yX6_newOne cX6_newOne 1 none]
def wsX6_step : List Cond := .code yX6_step cX6_step 2 (some .int) :: ((wsX6_step_r1 ++ (wsX6_step_r2 ++ wsX6_step_r3)) ++ wsX60)
def wsX6_free : List Cond := .code yX6_free cX6_free 2 (some .int) :: ([.fieldLink RX6 7 "PegClerksModel" "all" "[I", .methodLink RX6 91 yX6_changes, .instanceMethod yX6_changes, .selects RX6 yX6_changes yX6_changes, .initialized RX6, .code yX6_changes cX6_changes 2 none, .fieldLink RX6 34 "PegClerksModel" "historyLong" "I", .fieldLink RX6 16 "PegClerksModel" "history" "[I"] ++ wsX60)
def wsX6_newForm : List Cond := .code yX6_newForm cX6_newForm 2 (some .int) :: ([.fieldLink RX6 7 "PegClerksModel" "all" "[I", .methodLink RX6 91 yX6_changes, .instanceMethod yX6_changes, .selects RX6 yX6_changes yX6_changes, .initialized RX6, .code yX6_changes cX6_changes 2 none, .fieldLink RX6 34 "PegClerksModel" "historyLong" "I", .fieldLink RX6 16 "PegClerksModel" "history" "[I", .methodLink RX6 58 yX6_newOne, .instanceMethod yX6_newOne, .selects RX6 yX6_newOne yX6_newOne, .code yX6_newOne cX6_newOne 1 none] ++ wsX60)
def wsX6_row_r1 : List Cond := [Cond.fieldLink RX6 7 "PegClerksModel" "all" "[I", Cond.methodLink RX6 94 yX6_isRow, Cond.static yX6_isRow, Cond.initialized RX6, Cond.code yX6_isRow cX6_isRow 1 (some .boolean), Cond.constantLong RX6 38 (15), Cond.methodLink RX6 40 yX6_in, Cond.static yX6_in, Cond.code yX6_in cX6_in 6 (some .boolean), Cond.methodLink RX6 108 yX6_setIn, Cond.instanceMethod yX6_setIn, Cond.selects RX6 yX6_setIn yX6_setIn, Cond.code yX6_setIn cX6_setIn 4 (some .int), Cond.methodLink RX6 50 yX6_hasPeg, Cond.instanceMethod yX6_hasPeg, Cond.selects RX6 yX6_hasPeg yX6_hasPeg, Cond.code yX6_hasPeg cX6_hasPeg 3 (some .boolean), Cond.methodLink RX6 46 yX6_at, Cond.static yX6_at, Cond.code yX6_at cX6_at 2 (some .int), Cond.methodLink RX6 54 yX6_pegsIn, Cond.instanceMethod yX6_pegsIn, Cond.selects RX6 yX6_pegsIn yX6_pegsIn, Cond.code yX6_pegsIn cX6_pegsIn 4 (some .int)]
def wsX6_row_r2 : List Cond := [Cond.methodLink RX6 61 yX6_wouldJam, Cond.instanceMethod yX6_wouldJam, Cond.selects RX6 yX6_wouldJam yX6_wouldJam, Cond.code yX6_wouldJam cX6_wouldJam 2 (some .boolean)]
def wsX6_row : List Cond := .code yX6_row cX6_row 3 (some .int) :: ((wsX6_row_r1 ++ wsX6_row_r2) ++ wsX60)
def wsX6_stamped : List Cond := .code yX6_stamped cX6_stamped 3 (some .int) :: ([.fieldLink RX6 7 "PegClerksModel" "all" "[I", .methodLink RX6 94 yX6_isRow, .static yX6_isRow, .initialized RX6, .code yX6_isRow cX6_isRow 1 (some .boolean), .constantLong RX6 38 (15), .methodLink RX6 40 yX6_in, .static yX6_in, .code yX6_in cX6_in 6 (some .boolean), .methodLink RX6 97 yX6_isPlace, .static yX6_isPlace, .code yX6_isPlace cX6_isPlace 1 (some .boolean), .constantLong RX6 44 (5), .methodLink RX6 46 yX6_at, .static yX6_at, .code yX6_at cX6_at 2 (some .int)] ++ wsX60)
def wsX6_pegsOf : List Cond := .code yX6_pegsOf cX6_pegsOf 4 (some .int) :: ([.methodLink RX6 50 yX6_hasPeg, .instanceMethod yX6_hasPeg, .selects RX6 yX6_hasPeg yX6_hasPeg, .initialized RX6, .code yX6_hasPeg cX6_hasPeg 3 (some .boolean), .fieldLink RX6 7 "PegClerksModel" "all" "[I", .methodLink RX6 46 yX6_at, .static yX6_at, .code yX6_at cX6_at 2 (some .int)] ++ wsX60)
def wsX6_stamp : List Cond := .code yX6_stamp cX6_stamp 3 (some .int) :: ([.fieldLink RX6 7 "PegClerksModel" "all" "[I", .methodLink RX6 97 yX6_isPlace, .static yX6_isPlace, .initialized RX6, .code yX6_isPlace cX6_isPlace 1 (some .boolean), .constantLong RX6 44 (5), .methodLink RX6 40 yX6_in, .static yX6_in, .code yX6_in cX6_in 6 (some .boolean), .methodLink RX6 111 yX6_pegsOf, .instanceMethod yX6_pegsOf, .selects RX6 yX6_pegsOf yX6_pegsOf, .code yX6_pegsOf cX6_pegsOf 4 (some .int), .methodLink RX6 50 yX6_hasPeg, .instanceMethod yX6_hasPeg, .selects RX6 yX6_hasPeg yX6_hasPeg, .code yX6_hasPeg cX6_hasPeg 3 (some .boolean), .methodLink RX6 46 yX6_at, .static yX6_at, .code yX6_at cX6_at 2 (some .int)] ++ wsX60)
def wsX6_marks : List Cond := .code yX6_marks cX6_marks 3 (some .int) :: ([.fieldLink RX6 7 "PegClerksModel" "all" "[I"] ++ wsX60)
def wsX6_count_r1 : List Cond := [Cond.fieldLink RX6 7 "PegClerksModel" "all" "[I", Cond.fieldLink RX6 121 "PegClerksModel" "textLong" "I", Cond.fieldLink RX6 34 "PegClerksModel" "historyLong" "I", Cond.constantLong RX6 124 (14), Cond.methodLink RX6 114 yX6_pegs, Cond.instanceMethod yX6_pegs, Cond.selects RX6 yX6_pegs yX6_pegs, Cond.initialized RX6, Cond.code yX6_pegs cX6_pegs 3 (some .int), Cond.methodLink RX6 54 yX6_pegsIn, Cond.instanceMethod yX6_pegsIn, Cond.selects RX6 yX6_pegsIn yX6_pegsIn, Cond.code yX6_pegsIn cX6_pegsIn 4 (some .int), Cond.methodLink RX6 50 yX6_hasPeg, Cond.instanceMethod yX6_hasPeg, Cond.selects RX6 yX6_hasPeg yX6_hasPeg, Cond.code yX6_hasPeg cX6_hasPeg 3 (some .boolean), Cond.methodLink RX6 46 yX6_at, Cond.static yX6_at, Cond.code yX6_at cX6_at 2 (some .int), Cond.methodLink RX6 118 yX6_marks, Cond.instanceMethod yX6_marks, Cond.selects RX6 yX6_marks yX6_marks, Cond.code yX6_marks cX6_marks 3 (some .int)]
def wsX6_count_r2 : List Cond := [Cond.methodLink RX6 40 yX6_in, Cond.static yX6_in, Cond.code yX6_in cX6_in 6 (some .boolean)]
def wsX6_count : List Cond := .code yX6_count cX6_count 2 (some .int) :: ((wsX6_count_r1 ++ wsX6_count_r2) ++ wsX60)
def wsX6_untilJam_r1 : List Cond := [Cond.methodLink RX6 126 yX6_keeps, Cond.instanceMethod yX6_keeps, Cond.selects RX6 yX6_keeps yX6_keeps, Cond.initialized RX6, Cond.code yX6_keeps cX6_keeps 2 none, Cond.fieldLink RX6 13 "PegClerksModel" "kept" "[I", Cond.fieldLink RX6 7 "PegClerksModel" "all" "[I", Cond.methodLink RX6 105 yX6_stepsUpTo, Cond.instanceMethod yX6_stepsUpTo, Cond.selects RX6 yX6_stepsUpTo yX6_stepsUpTo, Cond.code yX6_stepsUpTo cX6_stepsUpTo 3 (some .int), Cond.methodLink RX6 76 yX6_steps, Cond.instanceMethod yX6_steps, Cond.selects RX6 yX6_steps yX6_steps, Cond.code yX6_steps cX6_steps 3 (some .boolean), Cond.methodLink RX6 61 yX6_wouldJam, Cond.instanceMethod yX6_wouldJam, Cond.selects RX6 yX6_wouldJam yX6_wouldJam, Cond.code yX6_wouldJam cX6_wouldJam 2 (some .boolean), Cond.methodLink RX6 54 yX6_pegsIn, Cond.instanceMethod yX6_pegsIn, Cond.selects RX6 yX6_pegsIn yX6_pegsIn, Cond.code yX6_pegsIn cX6_pegsIn 4 (some .int), Cond.methodLink RX6 50 yX6_hasPeg]
def wsX6_untilJam_r2 : List Cond := [Cond.instanceMethod yX6_hasPeg, Cond.selects RX6 yX6_hasPeg yX6_hasPeg, Cond.code yX6_hasPeg cX6_hasPeg 3 (some .boolean), Cond.methodLink RX6 46 yX6_at, Cond.static yX6_at, Cond.code yX6_at cX6_at 2 (some .int), Cond.methodLink RX6 65 yX6_falls, Cond.instanceMethod yX6_falls, Cond.selects RX6 yX6_falls yX6_falls, Cond.code yX6_falls cX6_falls 2 none, Cond.methodLink RX6 69 yX6_wears, Cond.instanceMethod yX6_wears, Cond.selects RX6 yX6_wears yX6_wears, Cond.code yX6_wears cX6_wears 3 none, Cond.methodLink RX6 73 yX6_lies, Cond.instanceMethod yX6_lies, Cond.selects RX6 yX6_lies yX6_lies, Cond.code yX6_lies cX6_lies 1 none, Cond.methodLink RX6 58 yX6_newOne, Cond.instanceMethod yX6_newOne, Cond.selects RX6 yX6_newOne yX6_newOne, Cond.code yX6_newOne cX6_newOne 1 none, Cond.methodLink RX6 129 yX6_comesBack, Cond.instanceMethod yX6_comesBack]
def wsX6_untilJam_r3 : List Cond := [Cond.selects RX6 yX6_comesBack yX6_comesBack, Cond.code yX6_comesBack cX6_comesBack 2 none]
def wsX6_untilJam : List Cond := .code yX6_untilJam cX6_untilJam 2 (some .int) :: ((wsX6_untilJam_r1 ++ (wsX6_untilJam_r2 ++ wsX6_untilJam_r3)) ++ wsX60)
def wsX6_ifStepped_r1 : List Cond := [Cond.constantLong RX6 132 (500), Cond.constantLong RX6 86 (4), Cond.fieldLink RX6 7 "PegClerksModel" "all" "[I", Cond.fieldLink RX6 13 "PegClerksModel" "kept" "[I", Cond.methodLink RX6 40 yX6_in, Cond.static yX6_in, Cond.initialized RX6, Cond.code yX6_in cX6_in 6 (some .boolean), Cond.methodLink RX6 118 yX6_marks, Cond.instanceMethod yX6_marks, Cond.selects RX6 yX6_marks yX6_marks, Cond.code yX6_marks cX6_marks 3 (some .int), Cond.methodLink RX6 126 yX6_keeps, Cond.instanceMethod yX6_keeps, Cond.selects RX6 yX6_keeps yX6_keeps, Cond.code yX6_keeps cX6_keeps 2 none, Cond.methodLink RX6 105 yX6_stepsUpTo, Cond.instanceMethod yX6_stepsUpTo, Cond.selects RX6 yX6_stepsUpTo yX6_stepsUpTo, Cond.code yX6_stepsUpTo cX6_stepsUpTo 3 (some .int), Cond.methodLink RX6 76 yX6_steps, Cond.instanceMethod yX6_steps, Cond.selects RX6 yX6_steps yX6_steps, Cond.code yX6_steps cX6_steps 3 (some .boolean)]
def wsX6_ifStepped_r2 : List Cond := [Cond.methodLink RX6 61 yX6_wouldJam, Cond.instanceMethod yX6_wouldJam, Cond.selects RX6 yX6_wouldJam yX6_wouldJam, Cond.code yX6_wouldJam cX6_wouldJam 2 (some .boolean), Cond.methodLink RX6 54 yX6_pegsIn, Cond.instanceMethod yX6_pegsIn, Cond.selects RX6 yX6_pegsIn yX6_pegsIn, Cond.code yX6_pegsIn cX6_pegsIn 4 (some .int), Cond.methodLink RX6 50 yX6_hasPeg, Cond.instanceMethod yX6_hasPeg, Cond.selects RX6 yX6_hasPeg yX6_hasPeg, Cond.code yX6_hasPeg cX6_hasPeg 3 (some .boolean), Cond.methodLink RX6 46 yX6_at, Cond.static yX6_at, Cond.code yX6_at cX6_at 2 (some .int), Cond.methodLink RX6 65 yX6_falls, Cond.instanceMethod yX6_falls, Cond.selects RX6 yX6_falls yX6_falls, Cond.code yX6_falls cX6_falls 2 none, Cond.methodLink RX6 69 yX6_wears, Cond.instanceMethod yX6_wears, Cond.selects RX6 yX6_wears yX6_wears, Cond.code yX6_wears cX6_wears 3 none, Cond.methodLink RX6 73 yX6_lies]
def wsX6_ifStepped_r3 : List Cond := [Cond.instanceMethod yX6_lies, Cond.selects RX6 yX6_lies yX6_lies, Cond.code yX6_lies cX6_lies 1 none, Cond.methodLink RX6 58 yX6_newOne, Cond.instanceMethod yX6_newOne, Cond.selects RX6 yX6_newOne yX6_newOne, Cond.code yX6_newOne cX6_newOne 1 none, Cond.methodLink RX6 129 yX6_comesBack, Cond.instanceMethod yX6_comesBack, Cond.selects RX6 yX6_comesBack yX6_comesBack, Cond.code yX6_comesBack cX6_comesBack 2 none]
def wsX6_ifStepped : List Cond := .code yX6_ifStepped cX6_ifStepped 6 (some .int) :: ((wsX6_ifStepped_r1 ++ (wsX6_ifStepped_r2 ++ wsX6_ifStepped_r3)) ++ wsX60)
def wsX6_bestOut_r1 : List Cond := [Cond.fieldLink RX6 7 "PegClerksModel" "all" "[I", Cond.methodLink RX6 134 yX6_ifStepped, Cond.instanceMethod yX6_ifStepped, Cond.selects RX6 yX6_ifStepped yX6_ifStepped, Cond.initialized RX6, Cond.code yX6_ifStepped cX6_ifStepped 6 (some .int), Cond.constantLong RX6 132 (500), Cond.constantLong RX6 86 (4), Cond.fieldLink RX6 13 "PegClerksModel" "kept" "[I", Cond.methodLink RX6 40 yX6_in, Cond.static yX6_in, Cond.code yX6_in cX6_in 6 (some .boolean), Cond.methodLink RX6 118 yX6_marks, Cond.instanceMethod yX6_marks, Cond.selects RX6 yX6_marks yX6_marks, Cond.code yX6_marks cX6_marks 3 (some .int), Cond.methodLink RX6 126 yX6_keeps, Cond.instanceMethod yX6_keeps, Cond.selects RX6 yX6_keeps yX6_keeps, Cond.code yX6_keeps cX6_keeps 2 none, Cond.methodLink RX6 105 yX6_stepsUpTo, Cond.instanceMethod yX6_stepsUpTo, Cond.selects RX6 yX6_stepsUpTo yX6_stepsUpTo, Cond.code yX6_stepsUpTo cX6_stepsUpTo 3 (some .int)]
def wsX6_bestOut_r2 : List Cond := [Cond.methodLink RX6 76 yX6_steps, Cond.instanceMethod yX6_steps, Cond.selects RX6 yX6_steps yX6_steps, Cond.code yX6_steps cX6_steps 3 (some .boolean), Cond.methodLink RX6 61 yX6_wouldJam, Cond.instanceMethod yX6_wouldJam, Cond.selects RX6 yX6_wouldJam yX6_wouldJam, Cond.code yX6_wouldJam cX6_wouldJam 2 (some .boolean), Cond.methodLink RX6 54 yX6_pegsIn, Cond.instanceMethod yX6_pegsIn, Cond.selects RX6 yX6_pegsIn yX6_pegsIn, Cond.code yX6_pegsIn cX6_pegsIn 4 (some .int), Cond.methodLink RX6 50 yX6_hasPeg, Cond.instanceMethod yX6_hasPeg, Cond.selects RX6 yX6_hasPeg yX6_hasPeg, Cond.code yX6_hasPeg cX6_hasPeg 3 (some .boolean), Cond.methodLink RX6 46 yX6_at, Cond.static yX6_at, Cond.code yX6_at cX6_at 2 (some .int), Cond.methodLink RX6 65 yX6_falls, Cond.instanceMethod yX6_falls, Cond.selects RX6 yX6_falls yX6_falls, Cond.code yX6_falls cX6_falls 2 none, Cond.methodLink RX6 69 yX6_wears]
def wsX6_bestOut_r3 : List Cond := [Cond.instanceMethod yX6_wears, Cond.selects RX6 yX6_wears yX6_wears, Cond.code yX6_wears cX6_wears 3 none, Cond.methodLink RX6 73 yX6_lies, Cond.instanceMethod yX6_lies, Cond.selects RX6 yX6_lies yX6_lies, Cond.code yX6_lies cX6_lies 1 none, Cond.methodLink RX6 58 yX6_newOne, Cond.instanceMethod yX6_newOne, Cond.selects RX6 yX6_newOne yX6_newOne, Cond.code yX6_newOne cX6_newOne 1 none, Cond.methodLink RX6 129 yX6_comesBack, Cond.instanceMethod yX6_comesBack, Cond.selects RX6 yX6_comesBack yX6_comesBack, Cond.code yX6_comesBack cX6_comesBack 2 none]
def wsX6_bestOut : List Cond := .code yX6_bestOut cX6_bestOut 6 (some .int) :: ((wsX6_bestOut_r1 ++ (wsX6_bestOut_r2 ++ wsX6_bestOut_r3)) ++ wsX60)
def wsX6_nextStamps : List Cond := .code yX6_nextStamps cX6_nextStamps 4 (some .int) :: ([.fieldLink RX6 7 "PegClerksModel" "all" "[I", .methodLink RX6 40 yX6_in, .static yX6_in, .initialized RX6, .code yX6_in cX6_in 6 (some .boolean), .methodLink RX6 108 yX6_setIn, .instanceMethod yX6_setIn, .selects RX6 yX6_setIn yX6_setIn, .code yX6_setIn cX6_setIn 4 (some .int), .methodLink RX6 50 yX6_hasPeg, .instanceMethod yX6_hasPeg, .selects RX6 yX6_hasPeg yX6_hasPeg, .code yX6_hasPeg cX6_hasPeg 3 (some .boolean), .methodLink RX6 46 yX6_at, .static yX6_at, .code yX6_at cX6_at 2 (some .int)] ++ wsX60)
def wsX6_charactersOf : List Cond := .code yX6_charactersOf cX6_charactersOf 5 (some .int) :: ([.constantLong RX6 137 (255), .constantLong RX6 139 (33), .constantLong RX6 141 (126), .methodLink RX6 40 yX6_in, .static yX6_in, .initialized RX6, .code yX6_in cX6_in 6 (some .boolean)])
def wsX6_put : List Cond := .code yX6_put cX6_put 5 (some .int) :: ([.fieldLink RX6 121 "PegClerksModel" "textLong" "I", .fieldLink RX6 25 "PegClerksModel" "text" "[I", .constantLong RX6 137 (255), .methodLink RX6 143 yX6_charactersOf, .static yX6_charactersOf, .initialized RX6, .code yX6_charactersOf cX6_charactersOf 5 (some .int), .constantLong RX6 139 (33), .constantLong RX6 141 (126), .methodLink RX6 40 yX6_in, .static yX6_in, .code yX6_in cX6_in 6 (some .boolean)] ++ wsX60)
def wsX6_wipe : List Cond := .code yX6_wipe cX6_wipe 2 (some .int) :: ([.fieldLink RX6 121 "PegClerksModel" "textLong" "I"] ++ wsX60)
def wsX6_isHere : List Cond := .code yX6_isHere cX6_isHere 3 (some .boolean) :: ([.fieldLink RX6 147 "PegClerksModel" "spot" "I", .fieldLink RX6 121 "PegClerksModel" "textLong" "I", .fieldLink RX6 25 "PegClerksModel" "text" "[I", .methodLink RX6 40 yX6_in, .static yX6_in, .initialized RX6, .code yX6_in cX6_in 6 (some .boolean)] ++ wsX60)
def wsX6_takesOne : List Cond := .code yX6_takesOne cX6_takesOne 3 (some .boolean) :: ([.fieldLink RX6 147 "PegClerksModel" "spot" "I", .methodLink RX6 150 yX6_isHere, .instanceMethod yX6_isHere, .selects RX6 yX6_isHere yX6_isHere, .initialized RX6, .code yX6_isHere cX6_isHere 3 (some .boolean), .fieldLink RX6 121 "PegClerksModel" "textLong" "I", .fieldLink RX6 25 "PegClerksModel" "text" "[I", .methodLink RX6 40 yX6_in, .static yX6_in, .code yX6_in cX6_in 6 (some .boolean)] ++ wsX60)
def wsX6_readsRow : List Cond := .code yX6_readsRow cX6_readsRow 4 (some .boolean) :: ([.fieldLink RX6 25 "PegClerksModel" "text" "[I", .fieldLink RX6 147 "PegClerksModel" "spot" "I", .fieldLink RX6 28 "PegClerksModel" "toldRows" "[I", .fieldLink RX6 156 "PegClerksModel" "told" "I", .fieldLink RX6 31 "PegClerksModel" "toldSets" "[I", .methodLink RX6 150 yX6_isHere, .instanceMethod yX6_isHere, .selects RX6 yX6_isHere yX6_isHere, .initialized RX6, .code yX6_isHere cX6_isHere 3 (some .boolean), .fieldLink RX6 121 "PegClerksModel" "textLong" "I", .methodLink RX6 40 yX6_in, .static yX6_in, .code yX6_in cX6_in 6 (some .boolean), .methodLink RX6 153 yX6_takesOne, .instanceMethod yX6_takesOne, .selects RX6 yX6_takesOne yX6_takesOne, .code yX6_takesOne cX6_takesOne 3 (some .boolean)] ++ wsX60)
def wsX6_fault : List Cond := .code yX6_fault cX6_fault 2 (some .int) :: ([.fieldLink RX6 147 "PegClerksModel" "spot" "I", .fieldLink RX6 156 "PegClerksModel" "told" "I", .fieldLink RX6 121 "PegClerksModel" "textLong" "I", .methodLink RX6 159 yX6_readsRow, .instanceMethod yX6_readsRow, .selects RX6 yX6_readsRow yX6_readsRow, .initialized RX6, .code yX6_readsRow cX6_readsRow 4 (some .boolean), .fieldLink RX6 25 "PegClerksModel" "text" "[I", .fieldLink RX6 28 "PegClerksModel" "toldRows" "[I", .fieldLink RX6 31 "PegClerksModel" "toldSets" "[I", .methodLink RX6 150 yX6_isHere, .instanceMethod yX6_isHere, .selects RX6 yX6_isHere yX6_isHere, .code yX6_isHere cX6_isHere 3 (some .boolean), .methodLink RX6 40 yX6_in, .static yX6_in, .code yX6_in cX6_in 6 (some .boolean), .methodLink RX6 153 yX6_takesOne, .instanceMethod yX6_takesOne, .selects RX6 yX6_takesOne yX6_takesOne, .code yX6_takesOne cX6_takesOne 3 (some .boolean)] ++ wsX60)
def wsX6_read_r1 : List Cond := [Cond.fieldLink RX6 156 "PegClerksModel" "told" "I", Cond.fieldLink RX6 28 "PegClerksModel" "toldRows" "[I", Cond.fieldLink RX6 31 "PegClerksModel" "toldSets" "[I", Cond.fieldLink RX6 7 "PegClerksModel" "all" "[I", Cond.fieldLink RX6 121 "PegClerksModel" "textLong" "I", Cond.methodLink RX6 162 yX6_fault, Cond.instanceMethod yX6_fault, Cond.selects RX6 yX6_fault yX6_fault, Cond.initialized RX6, Cond.code yX6_fault cX6_fault 2 (some .int), Cond.fieldLink RX6 147 "PegClerksModel" "spot" "I", Cond.methodLink RX6 159 yX6_readsRow, Cond.instanceMethod yX6_readsRow, Cond.selects RX6 yX6_readsRow yX6_readsRow, Cond.code yX6_readsRow cX6_readsRow 4 (some .boolean), Cond.fieldLink RX6 25 "PegClerksModel" "text" "[I", Cond.methodLink RX6 150 yX6_isHere, Cond.instanceMethod yX6_isHere, Cond.selects RX6 yX6_isHere yX6_isHere, Cond.code yX6_isHere cX6_isHere 3 (some .boolean), Cond.methodLink RX6 40 yX6_in, Cond.static yX6_in, Cond.code yX6_in cX6_in 6 (some .boolean), Cond.methodLink RX6 153 yX6_takesOne]
def wsX6_read_r2 : List Cond := [Cond.instanceMethod yX6_takesOne, Cond.selects RX6 yX6_takesOne yX6_takesOne, Cond.code yX6_takesOne cX6_takesOne 3 (some .boolean), Cond.methodLink RX6 91 yX6_changes, Cond.instanceMethod yX6_changes, Cond.selects RX6 yX6_changes yX6_changes, Cond.code yX6_changes cX6_changes 2 none, Cond.fieldLink RX6 34 "PegClerksModel" "historyLong" "I", Cond.fieldLink RX6 16 "PegClerksModel" "history" "[I", Cond.methodLink RX6 46 yX6_at, Cond.static yX6_at, Cond.code yX6_at cX6_at 2 (some .int), Cond.methodLink RX6 114 yX6_pegs, Cond.instanceMethod yX6_pegs, Cond.selects RX6 yX6_pegs yX6_pegs, Cond.code yX6_pegs cX6_pegs 3 (some .int), Cond.methodLink RX6 54 yX6_pegsIn, Cond.instanceMethod yX6_pegsIn, Cond.selects RX6 yX6_pegsIn yX6_pegsIn, Cond.code yX6_pegsIn cX6_pegsIn 4 (some .int), Cond.methodLink RX6 50 yX6_hasPeg, Cond.instanceMethod yX6_hasPeg, Cond.selects RX6 yX6_hasPeg yX6_hasPeg, Cond.code yX6_hasPeg cX6_hasPeg 3 (some .boolean)]
def wsX6_read : List Cond := .code yX6_read cX6_read 4 (some .int) :: ((wsX6_read_r1 ++ wsX6_read_r2) ++ wsX60)
def wsX6_undo : List Cond := .code yX6_undo cX6_undo 2 (some .int) :: ([.fieldLink RX6 34 "PegClerksModel" "historyLong" "I", .fieldLink RX6 7 "PegClerksModel" "all" "[I", .fieldLink RX6 16 "PegClerksModel" "history" "[I"] ++ wsX60)
def wsX6_isSlot : List Cond := .code yX6_isSlot cX6_isSlot 1 (some .boolean) :: ([])
def wsX6_save : List Cond := .code yX6_save cX6_save 3 (some .int) :: ([.fieldLink RX6 19 "PegClerksModel" "slots" "[I", .fieldLink RX6 7 "PegClerksModel" "all" "[I", .fieldLink RX6 22 "PegClerksModel" "isSaved" "[I", .methodLink RX6 165 yX6_isSlot, .static yX6_isSlot, .initialized RX6, .code yX6_isSlot cX6_isSlot 1 (some .boolean), .methodLink RX6 114 yX6_pegs, .instanceMethod yX6_pegs, .selects RX6 yX6_pegs yX6_pegs, .code yX6_pegs cX6_pegs 3 (some .int), .methodLink RX6 54 yX6_pegsIn, .instanceMethod yX6_pegsIn, .selects RX6 yX6_pegsIn yX6_pegsIn, .code yX6_pegsIn cX6_pegsIn 4 (some .int), .methodLink RX6 50 yX6_hasPeg, .instanceMethod yX6_hasPeg, .selects RX6 yX6_hasPeg yX6_hasPeg, .code yX6_hasPeg cX6_hasPeg 3 (some .boolean), .methodLink RX6 46 yX6_at, .static yX6_at, .code yX6_at cX6_at 2 (some .int)] ++ wsX60)
def wsX6_restore_r1 : List Cond := [Cond.fieldLink RX6 22 "PegClerksModel" "isSaved" "[I", Cond.fieldLink RX6 7 "PegClerksModel" "all" "[I", Cond.fieldLink RX6 19 "PegClerksModel" "slots" "[I", Cond.methodLink RX6 165 yX6_isSlot, Cond.static yX6_isSlot, Cond.initialized RX6, Cond.code yX6_isSlot cX6_isSlot 1 (some .boolean), Cond.methodLink RX6 91 yX6_changes, Cond.instanceMethod yX6_changes, Cond.selects RX6 yX6_changes yX6_changes, Cond.code yX6_changes cX6_changes 2 none, Cond.fieldLink RX6 34 "PegClerksModel" "historyLong" "I", Cond.fieldLink RX6 16 "PegClerksModel" "history" "[I", Cond.methodLink RX6 114 yX6_pegs, Cond.instanceMethod yX6_pegs, Cond.selects RX6 yX6_pegs yX6_pegs, Cond.code yX6_pegs cX6_pegs 3 (some .int), Cond.methodLink RX6 54 yX6_pegsIn, Cond.instanceMethod yX6_pegsIn, Cond.selects RX6 yX6_pegsIn yX6_pegsIn, Cond.code yX6_pegsIn cX6_pegsIn 4 (some .int), Cond.methodLink RX6 50 yX6_hasPeg, Cond.instanceMethod yX6_hasPeg, Cond.selects RX6 yX6_hasPeg yX6_hasPeg]
def wsX6_restore_r2 : List Cond := [Cond.code yX6_hasPeg cX6_hasPeg 3 (some .boolean), Cond.methodLink RX6 46 yX6_at, Cond.static yX6_at, Cond.code yX6_at cX6_at 2 (some .int)]
def wsX6_restore : List Cond := .code yX6_restore cX6_restore 3 (some .int) :: ((wsX6_restore_r1 ++ wsX6_restore_r2) ++ wsX60)
def wsJ9_min_7cf53 : List Cond := .code yJ9_min_7cf53 cJ9_min_7cf53 2 (some .int) :: ([])
def wsL_law_r1 : List Cond := [Cond.classLink RL 7 RX5, Cond.instantiable RX5 6, Cond.initialized RX5, Cond.classLink RL 10 RX6, Cond.instantiable RX6 12, Cond.initialized RX6, Cond.constantLong RL 80 (4294967295), Cond.methodLink RL 9 yX5_init, Cond.instanceMethod yX5_init, Cond.code yX5_init cX5_init 1 none, Cond.methodLink RX5 1 objectInit, Cond.instanceMethod objectInit, Cond.code objectInit ⟨#[0xb1]⟩ 1 none, Cond.classLink RX5 7 RX0, Cond.instantiable RX0 13, Cond.initialized RX0, Cond.fieldLink RX5 10 "PegClerks" "clerk" "LPegClerks$Clerk;", Cond.fieldLink RX5 16 "PegClerks" "trial" "LPegClerks$Clerk;", Cond.classLink RX5 19 RX2, Cond.instantiable RX2 3, Cond.initialized RX2, Cond.fieldLink RX5 22 "PegClerks" "history" "LPegClerks$History;", Cond.classLink RX5 26 RX3, Cond.instantiable RX3 2]
def wsL_law_r2 : List Cond := [Cond.initialized RX3, Cond.fieldLink RX5 29 "PegClerks" "pad" "LPegClerks$Pad;", Cond.fieldLink RX5 33 "PegClerks" "slots" "[LPegClerks$Clerk;", Cond.arrayClass .boolean, Cond.fieldLink RX5 37 "PegClerks" "saved" "[Z", Cond.instanceMethod yX0_init, Cond.code yX0_init cX0_init 1 none, Cond.methodLink RX0 3 objectInit, Cond.arrayClass .int, Cond.fieldLink RX0 9 "PegClerks$Clerk" "settings" "[I", Cond.classLink RX0 15 RX1, Cond.instantiable RX1 4, Cond.initialized RX1, Cond.fieldLink RX0 18 "PegClerks$Clerk" "drum" "LPegClerks$Drum;", Cond.classLink RX0 22 RX4, Cond.instantiable RX4 4, Cond.initialized RX4, Cond.fieldLink RX0 25 "PegClerks$Clerk" "stamps" "LPegClerks$Stamps;", Cond.instanceMethod yX1_init, Cond.code yX1_init cX1_init 1 none, Cond.methodLink RX1 3 objectInit, Cond.fieldLink RX1 9 "PegClerks$Drum" "rows" "[I", Cond.fieldLink RX1 15 "PegClerks$Drum" "stampings" "[I", Cond.instanceMethod yX4_init]
def wsL_law_r3 : List Cond := [Cond.code yX4_init cX4_init 1 none, Cond.methodLink RX4 3 objectInit, Cond.fieldLink RX4 9 "PegClerks$Stamps" "inks" "[I", Cond.fieldLink RX4 15 "PegClerks$Stamps" "marks" "[I", Cond.fieldLink RX4 18 "PegClerks$Stamps" "dryFalls" "[I", Cond.fieldLink RX4 21 "PegClerks$Stamps" "spoilings" "[I", Cond.instanceMethod yX2_init, Cond.code yX2_init cX2_init 1 none, Cond.methodLink RX2 1 objectInit, Cond.classLink RX2 7 RX0, Cond.fieldLink RX2 10 "PegClerks$History" "states" "[LPegClerks$Clerk;", Cond.instanceMethod yX3_init, Cond.code yX3_init cX3_init 1 none, Cond.methodLink RX3 3 objectInit, Cond.arrayClass .char, Cond.fieldLink RX3 11 "PegClerks$Pad" "signs" "[C", Cond.methodLink RL 12 yX6_init, Cond.instanceMethod yX6_init, Cond.code yX6_init cX6_init 2 none, Cond.methodLink RX6 1 objectInit, Cond.fieldLink RX6 7 "PegClerksModel" "all" "[I", Cond.fieldLink RX6 13 "PegClerksModel" "kept" "[I", Cond.fieldLink RX6 16 "PegClerksModel" "history" "[I", Cond.fieldLink RX6 19 "PegClerksModel" "slots" "[I"]
def wsL_law_r4 : List Cond := [Cond.fieldLink RX6 22 "PegClerksModel" "isSaved" "[I", Cond.fieldLink RX6 25 "PegClerksModel" "text" "[I", Cond.fieldLink RX6 28 "PegClerksModel" "toldRows" "[I", Cond.fieldLink RX6 31 "PegClerksModel" "toldSets" "[I", Cond.methodLink RL 13 yX5_set, Cond.instanceMethod yX5_set, Cond.selects RX5 yX5_set yX5_set, Cond.code yX5_set cX5_set 4 (some .int), Cond.fieldLink RX5 41 "PegClerks" "LEAST" "[I", Cond.fieldLink RX5 45 "PegClerks" "MOST" "[I", Cond.fieldLink RX5 52 "PegClerks$Clerk" "settings" "[I", Cond.methodLink RX5 48 yX2_keep, Cond.instanceMethod yX2_keep, Cond.selects RX2 yX2_keep yX2_keep, Cond.code yX2_keep cX2_keep 2 none, Cond.fieldLink RX2 16 "PegClerks$History" "next" "I", Cond.fieldLink RX2 24 "PegClerks$History" "kept" "I", Cond.methodLink RX2 27 Lib.Math.min.name, Cond.static Lib.Math.min.name, Cond.initialized "java/lang/Math", Cond.code Lib.Math.min.name Lib.Math.min.code 2 (some .int), Cond.methodLink RX2 20 yX0_copyFrom, Cond.instanceMethod yX0_copyFrom, Cond.selects RX0 yX0_copyFrom yX0_copyFrom]
def wsL_law_r5 : List Cond := [Cond.code yX0_copyFrom cX0_copyFrom 2 none, Cond.methodLink RX0 29 arraycopyName, Cond.native arraycopyName, Cond.static arraycopyName, Cond.initialized "java/lang/System", Cond.fieldLink RX0 42 "PegClerks$Clerk" "jammed" "Z", Cond.fieldLink RX0 46 "PegClerks$Clerk" "order" "I", Cond.fieldLink RX0 50 "PegClerks$Clerk" "formStamps" "I", Cond.fieldLink RX0 53 "PegClerks$Clerk" "formSpoiled" "Z", Cond.fieldLink RX0 56 "PegClerks$Clerk" "formSteps" "I", Cond.fieldLink RX0 59 "PegClerks$Clerk" "steps" "I", Cond.fieldLink RX0 62 "PegClerks$Clerk" "rightForms" "I", Cond.fieldLink RX0 65 "PegClerks$Clerk" "wrongForms" "I", Cond.fieldLink RX0 68 "PegClerks$Clerk" "spoiledForms" "I", Cond.fieldLink RX0 71 "PegClerks$Clerk" "jams" "I", Cond.methodLink RX0 35 yX1_copyFrom, Cond.instanceMethod yX1_copyFrom, Cond.selects RX1 yX1_copyFrom yX1_copyFrom, Cond.code yX1_copyFrom cX1_copyFrom 2 none, Cond.methodLink RX1 18 arraycopyName, Cond.fieldLink RX1 24 "PegClerks$Drum" "at" "I", Cond.fieldLink RX1 28 "PegClerks$Drum" "fallenOut" "I", Cond.methodLink RX0 39 yX4_copyFrom, Cond.instanceMethod yX4_copyFrom]
def wsL_law_r6 : List Cond := [Cond.selects RX4 yX4_copyFrom yX4_copyFrom, Cond.code yX4_copyFrom cX4_copyFrom 2 none, Cond.methodLink RX4 24 arraycopyName, Cond.methodLink RL 17 yX6_set, Cond.instanceMethod yX6_set, Cond.selects RX6 yX6_set yX6_set, Cond.code yX6_set cX6_set 4 (some .int), Cond.methodLink RX6 88 yX6_isSetting, Cond.static yX6_isSetting, Cond.code yX6_isSetting cX6_isSetting 2 (some .boolean), Cond.constantLong RX6 80 (8), Cond.constantLong RX6 82 (9), Cond.constantLong RX6 84 (99), Cond.constantLong RX6 86 (4), Cond.methodLink RX6 40 yX6_in, Cond.static yX6_in, Cond.code yX6_in cX6_in 6 (some .boolean), Cond.methodLink RX6 91 yX6_changes, Cond.instanceMethod yX6_changes, Cond.selects RX6 yX6_changes yX6_changes, Cond.code yX6_changes cX6_changes 2 none, Cond.fieldLink RX6 34 "PegClerksModel" "historyLong" "I", Cond.methodLink RL 18 yX5_peg, Cond.instanceMethod yX5_peg]
def wsL_law_r7 : List Cond := [Cond.selects RX5 yX5_peg yX5_peg, Cond.code yX5_peg cX5_peg 3 (some .int), Cond.fieldLink RX5 62 "PegClerks$Clerk" "drum" "LPegClerks$Drum;", Cond.fieldLink RX5 66 "PegClerks$Drum" "rows" "[I", Cond.methodLink RX5 55 yX5_isRow, Cond.static yX5_isRow, Cond.code yX5_isRow cX5_isRow 1 (some .boolean), Cond.methodLink RX5 59 yX5_isPlace, Cond.static yX5_isPlace, Cond.code yX5_isPlace cX5_isPlace 1 (some .boolean), Cond.methodLink RX5 71 yX1_giveRow, Cond.instanceMethod yX1_giveRow, Cond.selects RX1 yX1_giveRow yX1_giveRow, Cond.code yX1_giveRow cX1_giveRow 4 none, Cond.methodLink RX1 40 yX1_hasPeg, Cond.instanceMethod yX1_hasPeg, Cond.selects RX1 yX1_hasPeg yX1_hasPeg, Cond.code yX1_hasPeg cX1_hasPeg 3 (some .boolean), Cond.methodLink RX5 75 yX1_pegsInRow, Cond.instanceMethod yX1_pegsInRow, Cond.selects RX1 yX1_pegsInRow yX1_pegsInRow, Cond.code yX1_pegsInRow cX1_pegsInRow 2 (some .int), Cond.methodLink RX1 35 yJ6_bitCount_0f7a4, Cond.static yJ6_bitCount_0f7a4]
def wsL_law_r8 : List Cond := [Cond.initialized RJ6, Cond.code yJ6_bitCount_0f7a4 cJ6_bitCount_0f7a4 1 (some .int), Cond.constant RJ6 265 (1431655765), Cond.constant RJ6 266 (858993459), Cond.constant RJ6 267 (252645135), Cond.methodLink RL 21 yX6_peg, Cond.instanceMethod yX6_peg, Cond.selects RX6 yX6_peg yX6_peg, Cond.code yX6_peg cX6_peg 3 (some .int), Cond.methodLink RX6 94 yX6_isRow, Cond.static yX6_isRow, Cond.code yX6_isRow cX6_isRow 1 (some .boolean), Cond.constantLong RX6 38 (15), Cond.methodLink RX6 97 yX6_isPlace, Cond.static yX6_isPlace, Cond.code yX6_isPlace cX6_isPlace 1 (some .boolean), Cond.constantLong RX6 44 (5), Cond.methodLink RX6 46 yX6_at, Cond.static yX6_at, Cond.code yX6_at cX6_at 2 (some .int), Cond.methodLink RX6 50 yX6_hasPeg, Cond.instanceMethod yX6_hasPeg, Cond.selects RX6 yX6_hasPeg yX6_hasPeg, Cond.code yX6_hasPeg cX6_hasPeg 3 (some .boolean)]
def wsL_law_r9 : List Cond := [Cond.methodLink RX6 54 yX6_pegsIn, Cond.instanceMethod yX6_pegsIn, Cond.selects RX6 yX6_pegsIn yX6_pegsIn, Cond.code yX6_pegsIn cX6_pegsIn 4 (some .int), Cond.methodLink RL 22 yX5_order, Cond.instanceMethod yX5_order, Cond.selects RX5 yX5_order yX5_order, Cond.code yX5_order cX5_order 3 (some .int), Cond.fieldLink RX5 79 "PegClerks$Clerk" "order" "I", Cond.methodLink RL 26 yX6_order, Cond.instanceMethod yX6_order, Cond.selects RX6 yX6_order yX6_order, Cond.code yX6_order cX6_order 3 (some .int), Cond.constantLong RX6 100 (63), Cond.methodLink RL 27 yX5_ink, Cond.instanceMethod yX5_ink, Cond.selects RX5 yX5_ink yX5_ink, Cond.code yX5_ink cX5_ink 3 (some .int), Cond.fieldLink RX5 83 "PegClerks$Clerk" "stamps" "LPegClerks$Stamps;", Cond.fieldLink RX5 87 "PegClerks$Stamps" "inks" "[I", Cond.methodLink RL 30 yX6_ink, Cond.instanceMethod yX6_ink, Cond.selects RX6 yX6_ink yX6_ink, Cond.code yX6_ink cX6_ink 3 (some .int)]
def wsL_law_r10 : List Cond := [Cond.methodLink RL 31 yX5_step, Cond.instanceMethod yX5_step, Cond.selects RX5 yX5_step yX5_step, Cond.code yX5_step cX5_step 2 (some .int), Cond.fieldLink RX5 92 "PegClerks$Clerk" "jammed" "Z", Cond.fieldLink RX5 96 "PegClerks$Clerk" "steps" "I", Cond.constant RX5 99 (99999), Cond.methodLink RX5 100 yX0_makeSteps, Cond.instanceMethod yX0_makeSteps, Cond.selects RX0 yX0_makeSteps yX0_makeSteps, Cond.code yX0_makeSteps cX0_makeSteps 3 (some .int), Cond.methodLink RX0 78 yX0_makeOneStep, Cond.instanceMethod yX0_makeOneStep, Cond.selects RX0 yX0_makeOneStep yX0_makeOneStep, Cond.code yX0_makeOneStep cX0_makeOneStep 1 (some .boolean), Cond.fieldLink RX0 82 "PegClerks$Drum" "at" "I", Cond.fieldLink RX0 89 "PegClerks$Drum" "rows" "[I", Cond.methodLink RX0 85 yX0_wouldJamAt, Cond.instanceMethod yX0_wouldJamAt, Cond.selects RX0 yX0_wouldJamAt yX0_wouldJamAt, Cond.code yX0_wouldJamAt cX0_wouldJamAt 2 (some .boolean), Cond.methodLink RX0 74 yX1_pegsInRow, Cond.methodLink RX0 92 yX0_letStampsFall, Cond.instanceMethod yX0_letStampsFall]
def wsL_law_r11 : List Cond := [Cond.selects RX0 yX0_letStampsFall yX0_letStampsFall, Cond.code yX0_letStampsFall cX0_letStampsFall 3 none, Cond.methodLink RX0 102 yX0_letStampFall, Cond.instanceMethod yX0_letStampFall, Cond.selects RX0 yX0_letStampFall yX0_letStampFall, Cond.code yX0_letStampFall cX0_letStampFall 2 none, Cond.fieldLink RX0 109 "PegClerks$Stamps" "spoilings" "[I", Cond.methodLink RX0 112 yX4_leavesMark, Cond.instanceMethod yX4_leavesMark, Cond.selects RX4 yX4_leavesMark yX4_leavesMark, Cond.code yX4_leavesMark cX4_leavesMark 3 (some .boolean), Cond.methodLink RX0 105 yX1_wearPeg, Cond.instanceMethod yX1_wearPeg, Cond.selects RX1 yX1_wearPeg yX1_wearPeg, Cond.code yX1_wearPeg cX1_wearPeg 5 none, Cond.methodLink RX0 96 yX1_goOn, Cond.instanceMethod yX1_goOn, Cond.selects RX1 yX1_goOn yX1_goOn, Cond.code yX1_goOn cX1_goOn 1 none, Cond.methodLink RX1 31 yX1_rowBehind, Cond.static yX1_rowBehind, Cond.code yX1_rowBehind cX1_rowBehind 1 (some .int), Cond.methodLink RX0 99 yX0_finishForm, Cond.instanceMethod yX0_finishForm]
def wsL_law_r12 : List Cond := [Cond.selects RX0 yX0_finishForm yX0_finishForm, Cond.code yX0_finishForm cX0_finishForm 1 none, Cond.methodLink RX0 116 yX0_layForm, Cond.instanceMethod yX0_layForm, Cond.selects RX0 yX0_layForm yX0_layForm, Cond.code yX0_layForm cX0_layForm 1 none, Cond.methodLink RL 34 yX6_step, Cond.instanceMethod yX6_step, Cond.selects RX6 yX6_step yX6_step, Cond.code yX6_step cX6_step 2 (some .int), Cond.constantLong RX6 102 (200), Cond.constant RX6 104 (99999), Cond.methodLink RX6 105 yX6_stepsUpTo, Cond.instanceMethod yX6_stepsUpTo, Cond.selects RX6 yX6_stepsUpTo yX6_stepsUpTo, Cond.code yX6_stepsUpTo cX6_stepsUpTo 3 (some .int), Cond.methodLink RX6 76 yX6_steps, Cond.instanceMethod yX6_steps, Cond.selects RX6 yX6_steps yX6_steps, Cond.code yX6_steps cX6_steps 3 (some .boolean), Cond.methodLink RX6 61 yX6_wouldJam, Cond.instanceMethod yX6_wouldJam, Cond.selects RX6 yX6_wouldJam yX6_wouldJam, Cond.code yX6_wouldJam cX6_wouldJam 2 (some .boolean)]
def wsL_law_r13 : List Cond := [Cond.methodLink RX6 65 yX6_falls, Cond.instanceMethod yX6_falls, Cond.selects RX6 yX6_falls yX6_falls, Cond.code yX6_falls cX6_falls 2 none, Cond.methodLink RX6 69 yX6_wears, Cond.instanceMethod yX6_wears, Cond.selects RX6 yX6_wears yX6_wears, Cond.code yX6_wears cX6_wears 3 none, Cond.methodLink RX6 73 yX6_lies, Cond.instanceMethod yX6_lies, Cond.selects RX6 yX6_lies yX6_lies, Cond.code yX6_lies cX6_lies 1 none, Cond.methodLink RX6 58 yX6_newOne, Cond.instanceMethod yX6_newOne, Cond.selects RX6 yX6_newOne yX6_newOne, Cond.code yX6_newOne cX6_newOne 1 none, Cond.methodLink RL 35 yX5_free, Cond.instanceMethod yX5_free, Cond.selects RX5 yX5_free yX5_free, Cond.code yX5_free cX5_free 2 (some .int), Cond.fieldLink RX5 103 "PegClerks$Drum" "at" "I", Cond.methodLink RX5 106 yX1_goOn, Cond.methodLink RL 39 yX6_free, Cond.instanceMethod yX6_free]
def wsL_law_r14 : List Cond := [Cond.selects RX6 yX6_free yX6_free, Cond.code yX6_free cX6_free 2 (some .int), Cond.methodLink RL 40 yX5_newForm, Cond.instanceMethod yX5_newForm, Cond.selects RX5 yX5_newForm yX5_newForm, Cond.code yX5_newForm cX5_newForm 2 (some .int), Cond.fieldLink RX5 109 "PegClerks$Clerk" "formStamps" "I", Cond.methodLink RX5 112 yX0_layForm, Cond.methodLink RL 43 yX6_newForm, Cond.instanceMethod yX6_newForm, Cond.selects RX6 yX6_newForm yX6_newForm, Cond.code yX6_newForm cX6_newForm 2 (some .int), Cond.methodLink RL 44 yX5_read, Cond.instanceMethod yX5_read, Cond.selects RX5 yX5_read yX5_read, Cond.code yX5_read cX5_read 1 (some .int), Cond.methodLink RX5 115 yX3_firstFault, Cond.instanceMethod yX3_firstFault, Cond.selects RX3 yX3_firstFault yX3_firstFault, Cond.code yX3_firstFault cX3_firstFault 3 (some .int), Cond.fieldLink RX3 17 "PegClerks$Pad" "length" "I", Cond.methodLink RX3 21 yX3_dueBehind, Cond.static yX3_dueBehind, Cond.code yX3_dueBehind cX3_dueBehind 2 (some .int)]
def wsL_law_r15 : List Cond := [Cond.methodLink RX3 25 yX3_dueBehindPlaces, Cond.static yX3_dueBehindPlaces, Cond.code yX3_dueBehindPlaces cX3_dueBehindPlaces 3 (some .int), Cond.methodLink RX5 119 yX3_changeRows, Cond.instanceMethod yX3_changeRows, Cond.selects RX3 yX3_changeRows yX3_changeRows, Cond.code yX3_changeRows cX3_changeRows 6 none, Cond.methodLink RX3 35 yX1_giveRow, Cond.methodLink RX5 123 yX3_empty, Cond.instanceMethod yX3_empty, Cond.selects RX3 yX3_empty yX3_empty, Cond.code yX3_empty cX3_empty 1 none, Cond.methodLink RX5 126 yX1_allPegs, Cond.instanceMethod yX1_allPegs, Cond.selects RX1 yX1_allPegs yX1_allPegs, Cond.code yX1_allPegs cX1_allPegs 3 (some .int), Cond.methodLink RX1 44 yX1_pegsInRow, Cond.methodLink RL 47 yX6_read, Cond.instanceMethod yX6_read, Cond.selects RX6 yX6_read yX6_read, Cond.code yX6_read cX6_read 4 (some .int), Cond.fieldLink RX6 156 "PegClerksModel" "told" "I", Cond.fieldLink RX6 121 "PegClerksModel" "textLong" "I", Cond.methodLink RX6 162 yX6_fault]
def wsL_law_r16 : List Cond := [Cond.instanceMethod yX6_fault, Cond.selects RX6 yX6_fault yX6_fault, Cond.code yX6_fault cX6_fault 2 (some .int), Cond.fieldLink RX6 147 "PegClerksModel" "spot" "I", Cond.methodLink RX6 159 yX6_readsRow, Cond.instanceMethod yX6_readsRow, Cond.selects RX6 yX6_readsRow yX6_readsRow, Cond.code yX6_readsRow cX6_readsRow 4 (some .boolean), Cond.methodLink RX6 150 yX6_isHere, Cond.instanceMethod yX6_isHere, Cond.selects RX6 yX6_isHere yX6_isHere, Cond.code yX6_isHere cX6_isHere 3 (some .boolean), Cond.methodLink RX6 153 yX6_takesOne, Cond.instanceMethod yX6_takesOne, Cond.selects RX6 yX6_takesOne yX6_takesOne, Cond.code yX6_takesOne cX6_takesOne 3 (some .boolean), Cond.methodLink RX6 114 yX6_pegs, Cond.instanceMethod yX6_pegs, Cond.selects RX6 yX6_pegs yX6_pegs, Cond.code yX6_pegs cX6_pegs 3 (some .int), Cond.methodLink RL 48 yX5_row, Cond.instanceMethod yX5_row, Cond.selects RX5 yX5_row yX5_row, Cond.code yX5_row cX5_row 3 (some .int)]
def wsL_law_r17 : List Cond := [Cond.methodLink RX5 129 yX0_wouldJamAt, Cond.methodLink RX5 132 yX5_asNumber, Cond.static yX5_asNumber, Cond.code yX5_asNumber cX5_asNumber 1 (some .int), Cond.methodLink RX5 136 yJ9_floorMod_7cf53, Cond.static yJ9_floorMod_7cf53, Cond.initialized RJ9, Cond.code yJ9_floorMod_7cf53 cJ9_floorMod_7cf53 3 (some .int), Cond.methodLink RL 51 yX6_row, Cond.instanceMethod yX6_row, Cond.selects RX6 yX6_row yX6_row, Cond.code yX6_row cX6_row 3 (some .int), Cond.methodLink RX6 108 yX6_setIn, Cond.instanceMethod yX6_setIn, Cond.selects RX6 yX6_setIn yX6_setIn, Cond.code yX6_setIn cX6_setIn 4 (some .int), Cond.methodLink RL 52 yX5_stamped, Cond.instanceMethod yX5_stamped, Cond.selects RX5 yX5_stamped yX5_stamped, Cond.code yX5_stamped cX5_stamped 3 (some .int), Cond.fieldLink RX5 146 "PegClerks$Drum" "stampings" "[I", Cond.methodLink RX5 142 yX1_hasPeg, Cond.methodLink RL 55 yX6_stamped, Cond.instanceMethod yX6_stamped]
def wsL_law_r18 : List Cond := [Cond.selects RX6 yX6_stamped yX6_stamped, Cond.code yX6_stamped cX6_stamped 3 (some .int), Cond.methodLink RL 56 yX5_stamp, Cond.instanceMethod yX5_stamp, Cond.selects RX5 yX5_stamp yX5_stamp, Cond.code yX5_stamp cX5_stamp 3 (some .int), Cond.fieldLink RX5 149 "PegClerks$Stamps" "marks" "[I", Cond.fieldLink RX5 152 "PegClerks$Stamps" "dryFalls" "[I", Cond.fieldLink RX5 158 "PegClerks$Stamps" "spoilings" "[I", Cond.methodLink RX5 155 yX1_pegsAtPlace, Cond.instanceMethod yX1_pegsAtPlace, Cond.selects RX1 yX1_pegsAtPlace yX1_pegsAtPlace, Cond.code yX1_pegsAtPlace cX1_pegsAtPlace 4 (some .int), Cond.methodLink RL 59 yX6_stamp, Cond.instanceMethod yX6_stamp, Cond.selects RX6 yX6_stamp yX6_stamp, Cond.code yX6_stamp cX6_stamp 3 (some .int), Cond.methodLink RX6 111 yX6_pegsOf, Cond.instanceMethod yX6_pegsOf, Cond.selects RX6 yX6_pegsOf yX6_pegsOf, Cond.code yX6_pegsOf cX6_pegsOf 4 (some .int), Cond.methodLink RL 60 yX5_count, Cond.instanceMethod yX5_count, Cond.selects RX5 yX5_count yX5_count]
def wsL_law_r19 : List Cond := [Cond.code yX5_count cX5_count 2 (some .int), Cond.fieldLink RX5 161 "PegClerks$Clerk" "formSpoiled" "Z", Cond.fieldLink RX5 164 "PegClerks$Clerk" "formSteps" "I", Cond.fieldLink RX5 167 "PegClerks$Clerk" "rightForms" "I", Cond.fieldLink RX5 170 "PegClerks$Clerk" "wrongForms" "I", Cond.fieldLink RX5 173 "PegClerks$Clerk" "spoiledForms" "I", Cond.fieldLink RX5 176 "PegClerks$Clerk" "jams" "I", Cond.fieldLink RX5 179 "PegClerks$Drum" "fallenOut" "I", Cond.fieldLink RX5 185 "PegClerks$Pad" "length" "I", Cond.fieldLink RX5 188 "PegClerks$History" "kept" "I", Cond.methodLink RX5 182 yX4_allMarks, Cond.instanceMethod yX4_allMarks, Cond.selects RX4 yX4_allMarks yX4_allMarks, Cond.code yX4_allMarks cX4_allMarks 3 (some .int), Cond.methodLink RL 63 yX6_count, Cond.instanceMethod yX6_count, Cond.selects RX6 yX6_count yX6_count, Cond.code yX6_count cX6_count 2 (some .int), Cond.constantLong RX6 124 (14), Cond.methodLink RX6 118 yX6_marks, Cond.instanceMethod yX6_marks, Cond.selects RX6 yX6_marks yX6_marks, Cond.code yX6_marks cX6_marks 3 (some .int), Cond.methodLink RL 64 yX5_untilJam]
def wsL_law_r20 : List Cond := [Cond.instanceMethod yX5_untilJam, Cond.selects RX5 yX5_untilJam yX5_untilJam, Cond.code yX5_untilJam cX5_untilJam 2 (some .int), Cond.methodLink RX5 191 yX0_copyFrom, Cond.methodLink RL 67 yX6_untilJam, Cond.instanceMethod yX6_untilJam, Cond.selects RX6 yX6_untilJam yX6_untilJam, Cond.code yX6_untilJam cX6_untilJam 2 (some .int), Cond.methodLink RX6 126 yX6_keeps, Cond.instanceMethod yX6_keeps, Cond.selects RX6 yX6_keeps yX6_keeps, Cond.code yX6_keeps cX6_keeps 2 none, Cond.methodLink RX6 129 yX6_comesBack, Cond.instanceMethod yX6_comesBack, Cond.selects RX6 yX6_comesBack yX6_comesBack, Cond.code yX6_comesBack cX6_comesBack 2 none, Cond.methodLink RL 68 yX5_ifStepped, Cond.instanceMethod yX5_ifStepped, Cond.selects RX5 yX5_ifStepped yX5_ifStepped, Cond.code yX5_ifStepped cX5_ifStepped 4 (some .int), Cond.methodLink RL 71 yX6_ifStepped, Cond.instanceMethod yX6_ifStepped, Cond.selects RX6 yX6_ifStepped yX6_ifStepped, Cond.code yX6_ifStepped cX6_ifStepped 6 (some .int)]
def wsL_law_r21 : List Cond := [Cond.constantLong RX6 132 (500), Cond.methodLink RL 72 yX5_bestOut, Cond.instanceMethod yX5_bestOut, Cond.selects RX5 yX5_bestOut yX5_bestOut, Cond.code yX5_bestOut cX5_bestOut 6 (some .int), Cond.methodLink RX5 194 yX5_ifStepped, Cond.methodLink RX5 197 yX5_rightWithRow, Cond.instanceMethod yX5_rightWithRow, Cond.selects RX5 yX5_rightWithRow yX5_rightWithRow, Cond.code yX5_rightWithRow cX5_rightWithRow 3 (some .int), Cond.methodLink RL 75 yX6_bestOut, Cond.instanceMethod yX6_bestOut, Cond.selects RX6 yX6_bestOut yX6_bestOut, Cond.code yX6_bestOut cX6_bestOut 6 (some .int), Cond.methodLink RX6 134 yX6_ifStepped, Cond.methodLink RL 76 yX5_nextStamps, Cond.instanceMethod yX5_nextStamps, Cond.selects RX5 yX5_nextStamps yX5_nextStamps, Cond.code yX5_nextStamps cX5_nextStamps 2 (some .int), Cond.methodLink RX5 200 yX5_nextStampsByStep, Cond.instanceMethod yX5_nextStampsByStep, Cond.selects RX5 yX5_nextStampsByStep yX5_nextStampsByStep, Cond.code yX5_nextStampsByStep cX5_nextStampsByStep 5 (some .int), Cond.methodLink RX5 217 yX1_rowBehind]
def wsL_law_r22 : List Cond := [Cond.methodLink RX5 203 yX5_nextStampsByPegs, Cond.instanceMethod yX5_nextStampsByPegs, Cond.selects RX5 yX5_nextStampsByPegs yX5_nextStampsByPegs, Cond.code yX5_nextStampsByPegs cX5_nextStampsByPegs 3 (some .int), Cond.methodLink RL 79 yX6_nextStamps, Cond.instanceMethod yX6_nextStamps, Cond.selects RX6 yX6_nextStamps yX6_nextStamps, Cond.code yX6_nextStamps cX6_nextStamps 4 (some .int), Cond.methodLink RL 82 yX5_put, Cond.instanceMethod yX5_put, Cond.selects RX5 yX5_put yX5_put, Cond.code yX5_put cX5_put 4 (some .int), Cond.methodLink RX5 206 yX3_charactersIn, Cond.static yX3_charactersIn, Cond.code yX3_charactersIn cX3_charactersIn 6 (some .int), Cond.constantLong RX3 15 (255), Cond.methodLink RX5 210 yX3_append, Cond.instanceMethod yX3_append, Cond.selects RX3 yX3_append yX3_append, Cond.code yX3_append cX3_append 5 none, Cond.methodLink RL 86 yX6_put, Cond.instanceMethod yX6_put, Cond.selects RX6 yX6_put yX6_put, Cond.code yX6_put cX6_put 5 (some .int)]
def wsL_law_r23 : List Cond := [Cond.constantLong RX6 137 (255), Cond.methodLink RX6 143 yX6_charactersOf, Cond.static yX6_charactersOf, Cond.code yX6_charactersOf cX6_charactersOf 5 (some .int), Cond.constantLong RX6 139 (33), Cond.constantLong RX6 141 (126), Cond.methodLink RL 87 yX5_wipe, Cond.instanceMethod yX5_wipe, Cond.selects RX5 yX5_wipe yX5_wipe, Cond.code yX5_wipe cX5_wipe 2 (some .int), Cond.methodLink RL 90 yX6_wipe, Cond.instanceMethod yX6_wipe, Cond.selects RX6 yX6_wipe yX6_wipe, Cond.code yX6_wipe cX6_wipe 2 (some .int), Cond.methodLink RL 91 yX5_fault, Cond.instanceMethod yX5_fault, Cond.selects RX5 yX5_fault yX5_fault, Cond.code yX5_fault cX5_fault 1 (some .int), Cond.methodLink RL 94 yX6_fault, Cond.methodLink RL 95 yX5_undo, Cond.instanceMethod yX5_undo, Cond.selects RX5 yX5_undo yX5_undo, Cond.code yX5_undo cX5_undo 1 (some .int), Cond.methodLink RX5 214 yX2_takeBack]
def wsL_law_r24 : List Cond := [Cond.instanceMethod yX2_takeBack, Cond.selects RX2 yX2_takeBack yX2_takeBack, Cond.code yX2_takeBack cX2_takeBack 2 none, Cond.methodLink RL 98 yX6_undo, Cond.instanceMethod yX6_undo, Cond.selects RX6 yX6_undo yX6_undo, Cond.code yX6_undo cX6_undo 2 (some .int), Cond.methodLink RL 99 yX5_save, Cond.instanceMethod yX5_save, Cond.selects RX5 yX5_save yX5_save, Cond.code yX5_save cX5_save 2 (some .int), Cond.methodLink RL 102 yX6_save, Cond.instanceMethod yX6_save, Cond.selects RX6 yX6_save yX6_save, Cond.code yX6_save cX6_save 3 (some .int), Cond.methodLink RX6 165 yX6_isSlot, Cond.static yX6_isSlot, Cond.code yX6_isSlot cX6_isSlot 1 (some .boolean), Cond.methodLink RL 103 yX5_restore, Cond.instanceMethod yX5_restore, Cond.selects RX5 yX5_restore yX5_restore, Cond.code yX5_restore cX5_restore 2 (some .int), Cond.methodLink RL 106 yX6_restore, Cond.instanceMethod yX6_restore]
def wsL_law_r25 : List Cond := [Cond.selects RX6 yX6_restore yX6_restore, Cond.code yX6_restore cX6_restore 3 (some .int)]
def wsL_law : List Cond := (wsL_law_r1 ++ (wsL_law_r2 ++ (wsL_law_r3 ++ (wsL_law_r4 ++ (wsL_law_r5 ++ (wsL_law_r6 ++ (wsL_law_r7 ++ (wsL_law_r8 ++ (wsL_law_r9 ++ (wsL_law_r10 ++ (wsL_law_r11 ++ (wsL_law_r12 ++ (wsL_law_r13 ++ (wsL_law_r14 ++ (wsL_law_r15 ++ (wsL_law_r16 ++ (wsL_law_r17 ++ (wsL_law_r18 ++ (wsL_law_r19 ++ (wsL_law_r20 ++ (wsL_law_r21 ++ (wsL_law_r22 ++ (wsL_law_r23 ++ (wsL_law_r24 ++ wsL_law_r25)))))))))))))))))))))))) ++ wsX50 ++ wsX60 ++ wsX00 ++ wsX20 ++ wsX30 ++ wsX10 ++ wsX40 ++ ([] : List Cond)
end
section
theorem zin_r {big : List Cond} (ws : List Cond) (ps : List Nat) (hp : ws = ps.filterMap (fun i => big[i]?)) : ∀ w ∈ ws, w ∈ big := by
  intro w hw
  rw [hp] at hw
  obtain ⟨i, -, hi⟩ := List.mem_filterMap.mp hw
  first | exact List.mem_of_getElem? hi | exact List.getElem?_mem hi
theorem zin_a {big a b : List Cond} (ha : ∀ w ∈ a, w ∈ big) (hb : ∀ w ∈ b, w ∈ big) : ∀ w ∈ a ++ b, w ∈ big := fun w h => (List.mem_append.mp h).elim (ha w) (hb w)
theorem zin_n {big : List Cond} : ∀ w ∈ ([] : List Cond), w ∈ big := fun w h => absurd h List.not_mem_nil
set_option maxRecDepth 20000 in
theorem zi_wsL_law_r1 : ∀ w ∈ wsL_law_r1, w ∈ lw_tbl := zin_r _ [33, 34, 23, 461, 462, 29, 705, 35, 36, 37, 38, 39, 40, 41, 42, 24, 185, 186, 150, 151, 27, 187, 170, 171] (by decide +kernel)
set_option maxRecDepth 20000 in
theorem zi_wsL_law_r2 : ∀ w ∈ wsL_law_r2, w ∈ lw_tbl := zin_r _ [28, 188, 189, 204, 190, 44, 45, 46, 72, 97, 47, 48, 25, 99, 73, 74, 26, 101, 50, 51, 52, 53, 56, 76] (by decide +kernel)
set_option maxRecDepth 20000 in
theorem zi_wsL_law_r3 : ∀ w ∈ wsL_law_r3, w ∈ lw_tbl := zin_r _ [77, 78, 79, 81, 83, 85, 153, 154, 155, 156, 159, 173, 174, 175, 184, 176, 463, 464, 465, 466, 467, 468, 469, 471] (by decide +kernel)
set_option maxRecDepth 20000 in
theorem zi_wsL_law_r4 : ∀ w ∈ wsL_law_r4, w ∈ lw_tbl := zin_r _ [472, 473, 476, 477, 205, 206, 207, 208, 209, 211, 98, 213, 214, 215, 216, 160, 161, 234, 235, 31, 236, 217, 218, 219] (by decide +kernel)
set_option maxRecDepth 20000 in
theorem zi_wsL_law_r5 : ∀ w ∈ wsL_law_r5, w ∈ lw_tbl := zin_r _ [220, 221, 223, 222, 30, 103, 105, 107, 109, 111, 113, 115, 117, 119, 121, 224, 225, 226, 227, 228, 58, 61, 229, 230] (by decide +kernel)
set_option maxRecDepth 20000 in
theorem zi_wsL_law_r6 : ∀ w ∈ wsL_law_r6, w ∈ lw_tbl := zin_r _ [231, 232, 233, 504, 505, 506, 507, 508, 509, 510, 511, 515, 516, 517, 512, 513, 514, 518, 520, 3, 521, 470, 237, 238] (by decide +kernel)
set_option maxRecDepth 20000 in
theorem zi_wsL_law_r7 : ∀ w ∈ wsL_law_r7, w ∈ lw_tbl := zin_r _ [239, 240, 100, 54, 241, 242, 243, 244, 245, 246, 247, 248, 249, 250, 251, 252, 253, 254, 255, 256, 257, 258, 259, 260] (by decide +kernel)
set_option maxRecDepth 20000 in
theorem zi_wsL_law_r8 : ∀ w ∈ wsL_law_r8, w ∈ lw_tbl := zin_r _ [32, 261, 262, 263, 264, 522, 523, 524, 525, 526, 527, 528, 529, 530, 531, 532, 533, 534, 535, 536, 537, 539, 4, 540] (by decide +kernel)
set_option maxRecDepth 20000 in
theorem zi_wsL_law_r9 : ∀ w ∈ wsL_law_r9, w ∈ lw_tbl := zin_r _ [541, 543, 5, 544, 265, 266, 267, 268, 106, 545, 546, 547, 548, 549, 269, 270, 271, 272, 102, 80, 550, 551, 552, 553] (by decide +kernel)
set_option maxRecDepth 20000 in
theorem zi_wsL_law_r10 : ∀ w ∈ wsL_law_r10, w ∈ lw_tbl := zin_r _ [273, 274, 275, 276, 104, 114, 277, 278, 279, 280, 281, 282, 283, 284, 285, 59, 55, 286, 287, 288, 289, 290, 291, 292] (by decide +kernel)
set_option maxRecDepth 20000 in
theorem zi_wsL_law_r11 : ∀ w ∈ wsL_law_r11, w ∈ lw_tbl := zin_r _ [293, 294, 295, 296, 297, 298, 86, 299, 300, 301, 302, 303, 304, 305, 306, 307, 308, 309, 310, 311, 312, 313, 314, 315] (by decide +kernel)
set_option maxRecDepth 20000 in
theorem zi_wsL_law_r12 : ∀ w ∈ wsL_law_r12, w ∈ lw_tbl := zin_r _ [316, 317, 318, 319, 320, 321, 554, 555, 556, 557, 558, 559, 560, 562, 6, 563, 564, 566, 7, 567, 568, 570, 8, 571] (by decide +kernel)
set_option maxRecDepth 20000 in
theorem zi_wsL_law_r13 : ∀ w ∈ wsL_law_r13, w ∈ lw_tbl := zin_r _ [572, 574, 9, 575, 576, 578, 10, 579, 580, 582, 11, 583, 584, 586, 12, 587, 322, 323, 324, 325, 60, 326, 588, 589] (by decide +kernel)
set_option maxRecDepth 20000 in
theorem zi_wsL_law_r14 : ∀ w ∈ wsL_law_r14, w ∈ lw_tbl := zin_r _ [590, 591, 327, 328, 329, 330, 108, 331, 592, 593, 594, 595, 332, 333, 334, 335, 336, 337, 338, 339, 177, 340, 341, 342] (by decide +kernel)
set_option maxRecDepth 20000 in
theorem zi_wsL_law_r15 : ∀ w ∈ wsL_law_r15, w ∈ lw_tbl := zin_r _ [343, 344, 345, 347, 348, 349, 350, 352, 353, 354, 355, 356, 357, 358, 359, 360, 361, 685, 686, 687, 688, 478, 474, 689] (by decide +kernel)
set_option maxRecDepth 20000 in
theorem zi_wsL_law_r16 : ∀ w ∈ wsL_law_r16, w ∈ lw_tbl := zin_r _ [670, 671, 672, 475, 673, 675, 19, 676, 677, 679, 20, 680, 681, 683, 21, 684, 620, 622, 15, 623, 362, 363, 364, 365] (by decide +kernel)
set_option maxRecDepth 20000 in
theorem zi_wsL_law_r17 : ∀ w ∈ wsL_law_r17, w ∈ lw_tbl := zin_r _ [366, 367, 368, 369, 370, 371, 31, 372, 596, 597, 598, 599, 600, 602, 13, 603, 373, 374, 375, 376, 57, 377, 604, 605] (by decide +kernel)
set_option maxRecDepth 20000 in
theorem zi_wsL_law_r18 : ∀ w ∈ wsL_law_r18, w ∈ lw_tbl := zin_r _ [606, 607, 378, 379, 380, 381, 82, 84, 87, 382, 383, 384, 385, 608, 609, 610, 611, 612, 614, 14, 615, 386, 387, 388] (by decide +kernel)
set_option maxRecDepth 20000 in
theorem zi_wsL_law_r19 : ∀ w ∈ wsL_law_r19, w ∈ lw_tbl := zin_r _ [389, 110, 112, 116, 118, 120, 122, 62, 178, 162, 390, 391, 392, 393, 616, 617, 618, 619, 628, 624, 626, 16, 627, 394] (by decide +kernel)
set_option maxRecDepth 20000 in
theorem zi_wsL_law_r20 : ∀ w ∈ wsL_law_r20, w ∈ lw_tbl := zin_r _ [395, 396, 397, 398, 629, 630, 631, 632, 633, 635, 17, 636, 637, 639, 18, 640, 399, 400, 401, 402, 641, 642, 643, 644] (by decide +kernel)
set_option maxRecDepth 20000 in
theorem zi_wsL_law_r21 : ∀ w ∈ wsL_law_r21, w ∈ lw_tbl := zin_r _ [645, 403, 404, 405, 406, 407, 408, 410, 0, 411, 646, 647, 648, 649, 650, 412, 413, 414, 415, 416, 418, 1, 419, 420] (by decide +kernel)
set_option maxRecDepth 20000 in
theorem zi_wsL_law_r22 : ∀ w ∈ wsL_law_r22, w ∈ lw_tbl := zin_r _ [421, 423, 2, 424, 651, 652, 653, 654, 425, 426, 427, 428, 429, 430, 431, 432, 433, 434, 435, 436, 655, 656, 657, 658] (by decide +kernel)
set_option maxRecDepth 20000 in
theorem zi_wsL_law_r23 : ∀ w ∈ wsL_law_r23, w ∈ lw_tbl := zin_r _ [662, 659, 660, 661, 663, 664, 437, 438, 439, 440, 665, 666, 667, 668, 441, 442, 443, 444, 669, 445, 446, 447, 448, 449] (by decide +kernel)
set_option maxRecDepth 20000 in
theorem zi_wsL_law_r24 : ∀ w ∈ wsL_law_r24, w ∈ lw_tbl := zin_r _ [450, 451, 452, 690, 691, 692, 693, 453, 454, 455, 456, 694, 695, 696, 697, 698, 699, 700, 457, 458, 459, 460, 701, 702] (by decide +kernel)
set_option maxRecDepth 20000 in
theorem zi_wsL_law_r25 : ∀ w ∈ wsL_law_r25, w ∈ lw_tbl := zin_r _ [703, 704] (by decide +kernel)
set_option maxRecDepth 20000 in
theorem zi_wsX00 : ∀ w ∈ wsX00, w ∈ lw_tbl := zin_r _ [123, 125, 127, 129, 131, 133, 135, 137, 139, 141, 143, 145, 147] (by decide +kernel)
set_option maxRecDepth 20000 in
theorem zi_wsX10 : ∀ w ∈ wsX10, w ∈ lw_tbl := zin_r _ [63, 65, 67, 69] (by decide +kernel)
set_option maxRecDepth 20000 in
theorem zi_wsX20 : ∀ w ∈ wsX20, w ∈ lw_tbl := zin_r _ [163, 165, 167] (by decide +kernel)
set_option maxRecDepth 20000 in
theorem zi_wsX30 : ∀ w ∈ wsX30, w ∈ lw_tbl := zin_r _ [179, 181] (by decide +kernel)
set_option maxRecDepth 20000 in
theorem zi_wsX40 : ∀ w ∈ wsX40, w ∈ lw_tbl := zin_r _ [88, 90, 92, 94] (by decide +kernel)
set_option maxRecDepth 20000 in
theorem zi_wsX50 : ∀ w ∈ wsX50, w ∈ lw_tbl := zin_r _ [191, 193, 195, 197, 199, 201] (by decide +kernel)
set_option maxRecDepth 20000 in
theorem zi_wsX60 : ∀ w ∈ wsX60, w ∈ lw_tbl := zin_r _ [479, 481, 483, 485, 487, 489, 491, 493, 495, 497, 499, 501] (by decide +kernel)
theorem wsL_law_in : ∀ w ∈ wsL_law, w ∈ lw_tbl := (zin_a (zin_a (zin_a (zin_a (zin_a (zin_a (zin_a (zin_a (zin_a zi_wsL_law_r1 (zin_a zi_wsL_law_r2 (zin_a zi_wsL_law_r3 (zin_a zi_wsL_law_r4 (zin_a zi_wsL_law_r5 (zin_a zi_wsL_law_r6 (zin_a zi_wsL_law_r7 (zin_a zi_wsL_law_r8 (zin_a zi_wsL_law_r9 (zin_a zi_wsL_law_r10 (zin_a zi_wsL_law_r11 (zin_a zi_wsL_law_r12 (zin_a zi_wsL_law_r13 (zin_a zi_wsL_law_r14 (zin_a zi_wsL_law_r15 (zin_a zi_wsL_law_r16 (zin_a zi_wsL_law_r17 (zin_a zi_wsL_law_r18 (zin_a zi_wsL_law_r19 (zin_a zi_wsL_law_r20 (zin_a zi_wsL_law_r21 (zin_a zi_wsL_law_r22 (zin_a zi_wsL_law_r23 (zin_a zi_wsL_law_r24 zi_wsL_law_r25)))))))))))))))))))))))) zi_wsX50) zi_wsX60) zi_wsX00) zi_wsX20) zi_wsX30) zi_wsX10) zi_wsX40) zin_n)
theorem inlX0 : ∀ w ∈ wsX00, w ∈ wsL_law := fun _ h => List.mem_append_left _ (List.mem_append_left _ (List.mem_append_left _ (List.mem_append_left _ (List.mem_append_left _ (List.mem_append_right _ h)))))
theorem inX0 : ∀ w ∈ wsX00, w ∈ lw_tbl := fun w h => wsL_law_in w (inlX0 w h)
theorem inlX1 : ∀ w ∈ wsX10, w ∈ wsL_law := fun _ h => List.mem_append_left _ (List.mem_append_left _ (List.mem_append_right _ h))
theorem inX1 : ∀ w ∈ wsX10, w ∈ lw_tbl := fun w h => wsL_law_in w (inlX1 w h)
theorem inlX2 : ∀ w ∈ wsX20, w ∈ wsL_law := fun _ h => List.mem_append_left _ (List.mem_append_left _ (List.mem_append_left _ (List.mem_append_left _ (List.mem_append_right _ h))))
theorem inX2 : ∀ w ∈ wsX20, w ∈ lw_tbl := fun w h => wsL_law_in w (inlX2 w h)
theorem inlX3 : ∀ w ∈ wsX30, w ∈ wsL_law := fun _ h => List.mem_append_left _ (List.mem_append_left _ (List.mem_append_left _ (List.mem_append_right _ h)))
theorem inX3 : ∀ w ∈ wsX30, w ∈ lw_tbl := fun w h => wsL_law_in w (inlX3 w h)
theorem inlX4 : ∀ w ∈ wsX40, w ∈ wsL_law := fun _ h => List.mem_append_left _ (List.mem_append_right _ h)
theorem inX4 : ∀ w ∈ wsX40, w ∈ lw_tbl := fun w h => wsL_law_in w (inlX4 w h)
theorem inlX5 : ∀ w ∈ wsX50, w ∈ wsL_law := fun _ h => List.mem_append_left _ (List.mem_append_left _ (List.mem_append_left _ (List.mem_append_left _ (List.mem_append_left _ (List.mem_append_left _ (List.mem_append_left _ (List.mem_append_right _ h)))))))
theorem inX5 : ∀ w ∈ wsX50, w ∈ lw_tbl := fun w h => wsL_law_in w (inlX5 w h)
theorem inlX6 : ∀ w ∈ wsX60, w ∈ wsL_law := fun _ h => List.mem_append_left _ (List.mem_append_left _ (List.mem_append_left _ (List.mem_append_left _ (List.mem_append_left _ (List.mem_append_left _ (List.mem_append_right _ h))))))
theorem inX6 : ∀ w ∈ wsX60, w ∈ lw_tbl := fun w h => wsL_law_in w (inlX6 w h)
theorem inJ6 : ∀ w ∈ wsJ60, w ∈ lw_tbl := by decide +kernel
theorem inJ9 : ∀ w ∈ wsJ90, w ∈ lw_tbl := by decide +kernel
theorem inJ10 : ∀ w ∈ wsJ100, w ∈ lw_tbl := by decide +kernel
end
section
set_option maxRecDepth 20000 in
theorem ggX0_init_X1_init : GoodIn wsX0_init wsX1_init := goodIn_r _ [15, 16, 2, 3, 4, 17, 18, 39, 40, 41, 42] (by decide +kernel) (by decide +kernel)
set_option maxRecDepth 20000 in
theorem gX0_init_X1_init_n17 : GoodIn wsX0_init (wsX1_init) := ggX0_init_X1_init
set_option maxRecDepth 20000 in
theorem ggX0_init_X4_init : GoodIn wsX0_init wsX4_init := goodIn_r _ [20, 21, 2, 3, 4, 22, 23, 24, 25, 43, 44, 45, 46] (by decide +kernel) (by decide +kernel)
set_option maxRecDepth 20000 in
theorem gX0_init_X4_init_n24 : GoodIn wsX0_init (wsX4_init) := ggX0_init_X4_init
theorem dX0_init_0 : decode cX0_init 0 = .ok (.aload_n 0, 1) := by decide +kernel
theorem dX0_init_1 : decode cX0_init 1 = .ok (.invokespecial 3, 3) := by decide +kernel
theorem dX0_init_4 : decode cX0_init 4 = .ok (.aload_n 0, 1) := by decide +kernel
theorem dX0_init_5 : decode cX0_init 5 = .ok (.iconst 4, 1) := by decide +kernel
theorem dX0_init_6 : decode cX0_init 6 = .ok (.newarray .int, 2) := by decide +kernel
theorem dX0_init_8 : decode cX0_init 8 = .ok (.dup, 1) := by decide +kernel
theorem dX0_init_9 : decode cX0_init 9 = .ok (.iconst 0, 1) := by decide +kernel
theorem dX0_init_10 : decode cX0_init 10 = .ok (.iconst 4, 1) := by decide +kernel
theorem dX0_init_11 : decode cX0_init 11 = .ok (.iastore, 1) := by decide +kernel
theorem dX0_init_12 : decode cX0_init 12 = .ok (.dup, 1) := by decide +kernel
theorem dX0_init_13 : decode cX0_init 13 = .ok (.iconst 1, 1) := by decide +kernel
theorem dX0_init_14 : decode cX0_init 14 = .ok (.iconst 1, 1) := by decide +kernel
theorem dX0_init_15 : decode cX0_init 15 = .ok (.iastore, 1) := by decide +kernel
theorem dX0_init_16 : decode cX0_init 16 = .ok (.dup, 1) := by decide +kernel
theorem dX0_init_17 : decode cX0_init 17 = .ok (.iconst 2, 1) := by decide +kernel
theorem dX0_init_18 : decode cX0_init 18 = .ok (.iconst 0, 1) := by decide +kernel
theorem dX0_init_19 : decode cX0_init 19 = .ok (.iastore, 1) := by decide +kernel
theorem dX0_init_20 : decode cX0_init 20 = .ok (.dup, 1) := by decide +kernel
theorem dX0_init_21 : decode cX0_init 21 = .ok (.iconst 3, 1) := by decide +kernel
theorem dX0_init_22 : decode cX0_init 22 = .ok (.iconst 1, 1) := by decide +kernel
theorem dX0_init_23 : decode cX0_init 23 = .ok (.iastore, 1) := by decide +kernel
theorem dX0_init_24 : decode cX0_init 24 = .ok (.putfield 9, 3) := by decide +kernel
theorem dX0_init_27 : decode cX0_init 27 = .ok (.aload_n 0, 1) := by decide +kernel
theorem dX0_init_28 : decode cX0_init 28 = .ok (.new 15, 3) := by decide +kernel
theorem dX0_init_31 : decode cX0_init 31 = .ok (.dup, 1) := by decide +kernel
theorem dX0_init_32 : decode cX0_init 32 = .ok (.invokespecial 17, 3) := by decide +kernel
theorem dX0_init_35 : decode cX0_init 35 = .ok (.putfield 18, 3) := by decide +kernel
theorem dX0_init_38 : decode cX0_init 38 = .ok (.aload_n 0, 1) := by decide +kernel
theorem dX0_init_39 : decode cX0_init 39 = .ok (.new 22, 3) := by decide +kernel
theorem dX0_init_42 : decode cX0_init 42 = .ok (.dup, 1) := by decide +kernel
theorem dX0_init_43 : decode cX0_init 43 = .ok (.invokespecial 24, 3) := by decide +kernel
theorem dX0_init_46 : decode cX0_init 46 = .ok (.putfield 25, 3) := by decide +kernel
theorem dX0_init_49 : decode cX0_init 49 = .ok (.return_, 1) := by decide +kernel
set_option maxRecDepth 20000 in
theorem ggX0_copyFrom_X1_copyFrom : GoodIn wsX0_copyFrom wsX1_copyFrom := goodIn_r _ [22, 23, 24, 3, 4, 5, 25, 26, 27, 51, 52, 53, 54] (by decide +kernel) (by decide +kernel)
set_option maxRecDepth 20000 in
theorem gX0_copyFrom_X1_copyFrom : GoodIn wsX0_copyFrom (wsV RX0 35 RX1 yX1_copyFrom wsX1_copyFrom) := goodIn_app (goodIn_of _ (by decide +kernel)) ggX0_copyFrom_X1_copyFrom
set_option maxRecDepth 20000 in
theorem ggX0_copyFrom_X4_copyFrom : GoodIn wsX0_copyFrom wsX4_copyFrom := goodIn_r _ [32, 33, 34, 3, 4, 5, 35, 36, 37, 55, 56, 57, 58] (by decide +kernel) (by decide +kernel)
set_option maxRecDepth 20000 in
theorem gX0_copyFrom_X4_copyFrom : GoodIn wsX0_copyFrom (wsV RX0 39 RX4 yX4_copyFrom wsX4_copyFrom) := goodIn_app (goodIn_of _ (by decide +kernel)) ggX0_copyFrom_X4_copyFrom
theorem dX0_copyFrom_0 : decode cX0_copyFrom 0 = .ok (.aload_n 1, 1) := by decide +kernel
theorem dX0_copyFrom_1 : decode cX0_copyFrom 1 = .ok (.getfield 9, 3) := by decide +kernel
theorem dX0_copyFrom_4 : decode cX0_copyFrom 4 = .ok (.iconst 0, 1) := by decide +kernel
theorem dX0_copyFrom_5 : decode cX0_copyFrom 5 = .ok (.aload_n 0, 1) := by decide +kernel
theorem dX0_copyFrom_6 : decode cX0_copyFrom 6 = .ok (.getfield 9, 3) := by decide +kernel
theorem dX0_copyFrom_9 : decode cX0_copyFrom 9 = .ok (.iconst 0, 1) := by decide +kernel
theorem dX0_copyFrom_10 : decode cX0_copyFrom 10 = .ok (.iconst 4, 1) := by decide +kernel
theorem dX0_copyFrom_11 : decode cX0_copyFrom 11 = .ok (.invokestatic 29, 3) := by decide +kernel
theorem dX0_copyFrom_14 : decode cX0_copyFrom 14 = .ok (.aload_n 0, 1) := by decide +kernel
theorem dX0_copyFrom_15 : decode cX0_copyFrom 15 = .ok (.getfield 18, 3) := by decide +kernel
theorem dX0_copyFrom_18 : decode cX0_copyFrom 18 = .ok (.aload_n 1, 1) := by decide +kernel
theorem dX0_copyFrom_19 : decode cX0_copyFrom 19 = .ok (.getfield 18, 3) := by decide +kernel
theorem dX0_copyFrom_22 : decode cX0_copyFrom 22 = .ok (.invokevirtual 35, 3) := by decide +kernel
theorem dX0_copyFrom_25 : decode cX0_copyFrom 25 = .ok (.aload_n 0, 1) := by decide +kernel
theorem dX0_copyFrom_26 : decode cX0_copyFrom 26 = .ok (.getfield 25, 3) := by decide +kernel
theorem dX0_copyFrom_29 : decode cX0_copyFrom 29 = .ok (.aload_n 1, 1) := by decide +kernel
theorem dX0_copyFrom_30 : decode cX0_copyFrom 30 = .ok (.getfield 25, 3) := by decide +kernel
theorem dX0_copyFrom_33 : decode cX0_copyFrom 33 = .ok (.invokevirtual 39, 3) := by decide +kernel
theorem dX0_copyFrom_36 : decode cX0_copyFrom 36 = .ok (.aload_n 0, 1) := by decide +kernel
theorem dX0_copyFrom_37 : decode cX0_copyFrom 37 = .ok (.aload_n 1, 1) := by decide +kernel
theorem dX0_copyFrom_38 : decode cX0_copyFrom 38 = .ok (.getfield 42, 3) := by decide +kernel
theorem dX0_copyFrom_41 : decode cX0_copyFrom 41 = .ok (.putfield 42, 3) := by decide +kernel
theorem dX0_copyFrom_44 : decode cX0_copyFrom 44 = .ok (.aload_n 0, 1) := by decide +kernel
theorem dX0_copyFrom_45 : decode cX0_copyFrom 45 = .ok (.aload_n 1, 1) := by decide +kernel
theorem dX0_copyFrom_46 : decode cX0_copyFrom 46 = .ok (.getfield 46, 3) := by decide +kernel
theorem dX0_copyFrom_49 : decode cX0_copyFrom 49 = .ok (.putfield 46, 3) := by decide +kernel
theorem dX0_copyFrom_52 : decode cX0_copyFrom 52 = .ok (.aload_n 0, 1) := by decide +kernel
theorem dX0_copyFrom_53 : decode cX0_copyFrom 53 = .ok (.aload_n 1, 1) := by decide +kernel
theorem dX0_copyFrom_54 : decode cX0_copyFrom 54 = .ok (.getfield 50, 3) := by decide +kernel
theorem dX0_copyFrom_57 : decode cX0_copyFrom 57 = .ok (.putfield 50, 3) := by decide +kernel
theorem dX0_copyFrom_60 : decode cX0_copyFrom 60 = .ok (.aload_n 0, 1) := by decide +kernel
theorem dX0_copyFrom_61 : decode cX0_copyFrom 61 = .ok (.aload_n 1, 1) := by decide +kernel
theorem dX0_copyFrom_62 : decode cX0_copyFrom 62 = .ok (.getfield 53, 3) := by decide +kernel
theorem dX0_copyFrom_65 : decode cX0_copyFrom 65 = .ok (.putfield 53, 3) := by decide +kernel
theorem dX0_copyFrom_68 : decode cX0_copyFrom 68 = .ok (.aload_n 0, 1) := by decide +kernel
theorem dX0_copyFrom_69 : decode cX0_copyFrom 69 = .ok (.aload_n 1, 1) := by decide +kernel
theorem dX0_copyFrom_70 : decode cX0_copyFrom 70 = .ok (.getfield 56, 3) := by decide +kernel
theorem dX0_copyFrom_73 : decode cX0_copyFrom 73 = .ok (.putfield 56, 3) := by decide +kernel
theorem dX0_copyFrom_76 : decode cX0_copyFrom 76 = .ok (.aload_n 0, 1) := by decide +kernel
theorem dX0_copyFrom_77 : decode cX0_copyFrom 77 = .ok (.aload_n 1, 1) := by decide +kernel
theorem dX0_copyFrom_78 : decode cX0_copyFrom 78 = .ok (.getfield 59, 3) := by decide +kernel
theorem dX0_copyFrom_81 : decode cX0_copyFrom 81 = .ok (.putfield 59, 3) := by decide +kernel
theorem dX0_copyFrom_84 : decode cX0_copyFrom 84 = .ok (.aload_n 0, 1) := by decide +kernel
theorem dX0_copyFrom_85 : decode cX0_copyFrom 85 = .ok (.aload_n 1, 1) := by decide +kernel
theorem dX0_copyFrom_86 : decode cX0_copyFrom 86 = .ok (.getfield 62, 3) := by decide +kernel
theorem dX0_copyFrom_89 : decode cX0_copyFrom 89 = .ok (.putfield 62, 3) := by decide +kernel
theorem dX0_copyFrom_92 : decode cX0_copyFrom 92 = .ok (.aload_n 0, 1) := by decide +kernel
theorem dX0_copyFrom_93 : decode cX0_copyFrom 93 = .ok (.aload_n 1, 1) := by decide +kernel
theorem dX0_copyFrom_94 : decode cX0_copyFrom 94 = .ok (.getfield 65, 3) := by decide +kernel
theorem dX0_copyFrom_97 : decode cX0_copyFrom 97 = .ok (.putfield 65, 3) := by decide +kernel
theorem dX0_copyFrom_100 : decode cX0_copyFrom 100 = .ok (.aload_n 0, 1) := by decide +kernel
theorem dX0_copyFrom_101 : decode cX0_copyFrom 101 = .ok (.aload_n 1, 1) := by decide +kernel
theorem dX0_copyFrom_102 : decode cX0_copyFrom 102 = .ok (.getfield 68, 3) := by decide +kernel
theorem dX0_copyFrom_105 : decode cX0_copyFrom 105 = .ok (.putfield 68, 3) := by decide +kernel
theorem dX0_copyFrom_108 : decode cX0_copyFrom 108 = .ok (.aload_n 0, 1) := by decide +kernel
theorem dX0_copyFrom_109 : decode cX0_copyFrom 109 = .ok (.aload_n 1, 1) := by decide +kernel
theorem dX0_copyFrom_110 : decode cX0_copyFrom 110 = .ok (.getfield 71, 3) := by decide +kernel
theorem dX0_copyFrom_113 : decode cX0_copyFrom 113 = .ok (.putfield 71, 3) := by decide +kernel
theorem dX0_copyFrom_116 : decode cX0_copyFrom 116 = .ok (.return_, 1) := by decide +kernel
set_option maxRecDepth 20000 in
theorem ggX0_wouldJamAt_X1_pegsInRow : GoodIn wsX0_wouldJamAt wsX1_pegsInRow := goodIn_r _ [7, 8, 9, 10, 11, 12, 13, 14, 15, 29, 30, 31, 32] (by decide +kernel) (by decide +kernel)
set_option maxRecDepth 20000 in
theorem gX0_wouldJamAt_X1_pegsInRow : GoodIn wsX0_wouldJamAt (wsV RX0 74 RX1 yX1_pegsInRow wsX1_pegsInRow) := goodIn_app (goodIn_of _ (by decide +kernel)) ggX0_wouldJamAt_X1_pegsInRow
theorem dX0_wouldJamAt_0 : decode cX0_wouldJamAt 0 = .ok (.aload_n 0, 1) := by decide +kernel
theorem dX0_wouldJamAt_1 : decode cX0_wouldJamAt 1 = .ok (.getfield 18, 3) := by decide +kernel
theorem dX0_wouldJamAt_4 : decode cX0_wouldJamAt 4 = .ok (.iload_n 1, 1) := by decide +kernel
theorem dX0_wouldJamAt_5 : decode cX0_wouldJamAt 5 = .ok (.invokevirtual 74, 3) := by decide +kernel
theorem dX0_wouldJamAt_8 : decode cX0_wouldJamAt 8 = .ok (.aload_n 0, 1) := by decide +kernel
theorem dX0_wouldJamAt_9 : decode cX0_wouldJamAt 9 = .ok (.getfield 9, 3) := by decide +kernel
theorem dX0_wouldJamAt_12 : decode cX0_wouldJamAt 12 = .ok (.iconst 3, 1) := by decide +kernel
theorem dX0_wouldJamAt_13 : decode cX0_wouldJamAt 13 = .ok (.iaload, 1) := by decide +kernel
theorem dX0_wouldJamAt_14 : decode cX0_wouldJamAt 14 = .ok (.if_icmp .le 7, 3) := by decide +kernel
theorem dX0_wouldJamAt_17 : decode cX0_wouldJamAt 17 = .ok (.iconst 1, 1) := by decide +kernel
theorem dX0_wouldJamAt_18 : decode cX0_wouldJamAt 18 = .ok (.goto 4, 3) := by decide +kernel
theorem dX0_wouldJamAt_21 : decode cX0_wouldJamAt 21 = .ok (.iconst 0, 1) := by decide +kernel
theorem dX0_wouldJamAt_22 : decode cX0_wouldJamAt 22 = .ok (.ireturn, 1) := by decide +kernel
set_option maxRecDepth 20000 in
theorem ggX0_makeSteps_X0_makeOneStep : GoodIn wsX0_makeSteps wsX0_makeOneStep := goodIn_r _ [5, 6, 7, 8, 9, 10, 11, 12, 13, 14, 15, 16, 4, 17, 18, 19, 20, 21, 22, 23, 24, 25, 26, 27, 28, 29, 30, 31, 32, 33, 34, 35, 36, 37, 38, 39, 40, 41, 42, 43, 44, 45, 46, 47, 48, 49, 50, 51, 52, 53, 54, 55, 56, 57, 58, 59, 60, 61, 62, 63, 64, 65, 66, 67, 68, 69, 70, 71, 72, 73, 74, 75, 76, 77, 78, 79, 80, 81, 82, 83, 84, 85, 86, 87, 88, 89, 90, 91, 92, 93, 94, 95, 96, 97] (by decide +kernel) (by decide +kernel)
set_option maxRecDepth 20000 in
theorem gX0_makeSteps_X0_makeOneStep : GoodIn wsX0_makeSteps (wsV RX0 78 RX0 yX0_makeOneStep wsX0_makeOneStep) := goodIn_app (goodIn_of _ (by decide +kernel)) ggX0_makeSteps_X0_makeOneStep
theorem dX0_makeSteps_0 : decode cX0_makeSteps 0 = .ok (.iconst 0, 1) := by decide +kernel
theorem dX0_makeSteps_1 : decode cX0_makeSteps 1 = .ok (.istore_n 2, 1) := by decide +kernel
theorem dX0_makeSteps_2 : decode cX0_makeSteps 2 = .ok (.iload_n 2, 1) := by decide +kernel
theorem dX0_makeSteps_3 : decode cX0_makeSteps 3 = .ok (.iload_n 1, 1) := by decide +kernel
theorem dX0_makeSteps_4 : decode cX0_makeSteps 4 = .ok (.if_icmp .ge 16, 3) := by decide +kernel
theorem dX0_makeSteps_7 : decode cX0_makeSteps 7 = .ok (.aload_n 0, 1) := by decide +kernel
theorem dX0_makeSteps_8 : decode cX0_makeSteps 8 = .ok (.invokevirtual 78, 3) := by decide +kernel
theorem dX0_makeSteps_11 : decode cX0_makeSteps 11 = .ok (.ifCond .eq 9, 3) := by decide +kernel
theorem dX0_makeSteps_14 : decode cX0_makeSteps 14 = .ok (.iinc 2 1, 3) := by decide +kernel
theorem dX0_makeSteps_17 : decode cX0_makeSteps 17 = .ok (.goto (-15), 3) := by decide +kernel
theorem dX0_makeSteps_20 : decode cX0_makeSteps 20 = .ok (.iload_n 2, 1) := by decide +kernel
theorem dX0_makeSteps_21 : decode cX0_makeSteps 21 = .ok (.ireturn, 1) := by decide +kernel
set_option maxRecDepth 20000 in
theorem ggX0_makeOneStep_X0_wouldJamAt : GoodIn wsX0_makeOneStep wsX0_wouldJamAt := goodIn_r _ [13, 2, 8, 14, 15, 16, 17, 18, 19, 20, 21, 22, 23, 24, 25, 26, 73, 74, 75, 76, 77, 78, 79, 80, 81, 82, 83, 84, 85, 86, 87, 88, 89] (by decide +kernel) (by decide +kernel)
set_option maxRecDepth 20000 in
theorem gX0_makeOneStep_X0_wouldJamAt : GoodIn wsX0_makeOneStep (wsV RX0 85 RX0 yX0_wouldJamAt wsX0_wouldJamAt) := goodIn_app (goodIn_of _ (by decide +kernel)) ggX0_makeOneStep_X0_wouldJamAt
set_option maxRecDepth 20000 in
theorem ggX0_makeOneStep_X0_letStampsFall : GoodIn wsX0_makeOneStep wsX0_letStampsFall := goodIn_r _ [30, 2, 3, 8, 31, 32, 33, 12, 34, 35, 36, 37, 38, 39, 40, 41, 42, 43, 44, 45, 46, 47, 48, 49, 17, 50, 51, 19, 52, 73, 74, 75, 76, 77, 78, 79, 80, 81, 82, 83, 84, 85, 86, 87, 88, 89, 90, 91, 92, 93] (by decide +kernel) (by decide +kernel)
set_option maxRecDepth 20000 in
theorem gX0_makeOneStep_X0_letStampsFall : GoodIn wsX0_makeOneStep (wsV RX0 92 RX0 yX0_letStampsFall wsX0_letStampsFall) := goodIn_app (goodIn_of _ (by decide +kernel)) ggX0_makeOneStep_X0_letStampsFall
set_option maxRecDepth 20000 in
theorem ggX0_makeOneStep_X1_goOn : GoodIn wsX0_makeOneStep wsX1_goOn := goodIn_r _ [56, 57, 58, 59, 17, 60, 86, 87, 88, 89] (by decide +kernel) (by decide +kernel)
set_option maxRecDepth 20000 in
theorem gX0_makeOneStep_X1_goOn : GoodIn wsX0_makeOneStep (wsV RX0 96 RX1 yX1_goOn wsX1_goOn) := goodIn_app (goodIn_of _ (by decide +kernel)) ggX0_makeOneStep_X1_goOn
set_option maxRecDepth 20000 in
theorem ggX0_makeOneStep_X0_finishForm : GoodIn wsX0_makeOneStep wsX0_finishForm := goodIn_r _ [64, 36, 65, 35, 66, 67, 68, 69, 70, 71, 12, 72, 7, 73, 74, 75, 76, 77, 78, 79, 80, 81, 82, 83, 84, 85] (by decide +kernel) (by decide +kernel)
set_option maxRecDepth 20000 in
theorem gX0_makeOneStep_X0_finishForm : GoodIn wsX0_makeOneStep (wsV RX0 99 RX0 yX0_finishForm wsX0_finishForm) := goodIn_app (goodIn_of _ (by decide +kernel)) ggX0_makeOneStep_X0_finishForm
theorem dX0_makeOneStep_0 : decode cX0_makeOneStep 0 = .ok (.aload_n 0, 1) := by decide +kernel
theorem dX0_makeOneStep_1 : decode cX0_makeOneStep 1 = .ok (.getfield 42, 3) := by decide +kernel
theorem dX0_makeOneStep_4 : decode cX0_makeOneStep 4 = .ok (.ifCond .eq 5, 3) := by decide +kernel
theorem dX0_makeOneStep_7 : decode cX0_makeOneStep 7 = .ok (.iconst 0, 1) := by decide +kernel
theorem dX0_makeOneStep_8 : decode cX0_makeOneStep 8 = .ok (.ireturn, 1) := by decide +kernel
theorem dX0_makeOneStep_9 : decode cX0_makeOneStep 9 = .ok (.aload_n 0, 1) := by decide +kernel
theorem dX0_makeOneStep_10 : decode cX0_makeOneStep 10 = .ok (.aload_n 0, 1) := by decide +kernel
theorem dX0_makeOneStep_11 : decode cX0_makeOneStep 11 = .ok (.getfield 18, 3) := by decide +kernel
theorem dX0_makeOneStep_14 : decode cX0_makeOneStep 14 = .ok (.getfield 82, 3) := by decide +kernel
theorem dX0_makeOneStep_17 : decode cX0_makeOneStep 17 = .ok (.invokevirtual 85, 3) := by decide +kernel
theorem dX0_makeOneStep_20 : decode cX0_makeOneStep 20 = .ok (.ifCond .eq 20, 3) := by decide +kernel
theorem dX0_makeOneStep_23 : decode cX0_makeOneStep 23 = .ok (.aload_n 0, 1) := by decide +kernel
theorem dX0_makeOneStep_24 : decode cX0_makeOneStep 24 = .ok (.iconst 1, 1) := by decide +kernel
theorem dX0_makeOneStep_25 : decode cX0_makeOneStep 25 = .ok (.putfield 42, 3) := by decide +kernel
theorem dX0_makeOneStep_28 : decode cX0_makeOneStep 28 = .ok (.aload_n 0, 1) := by decide +kernel
theorem dX0_makeOneStep_29 : decode cX0_makeOneStep 29 = .ok (.dup, 1) := by decide +kernel
theorem dX0_makeOneStep_30 : decode cX0_makeOneStep 30 = .ok (.getfield 71, 3) := by decide +kernel
theorem dX0_makeOneStep_33 : decode cX0_makeOneStep 33 = .ok (.iconst 1, 1) := by decide +kernel
theorem dX0_makeOneStep_34 : decode cX0_makeOneStep 34 = .ok (.iadd, 1) := by decide +kernel
theorem dX0_makeOneStep_35 : decode cX0_makeOneStep 35 = .ok (.putfield 71, 3) := by decide +kernel
theorem dX0_makeOneStep_38 : decode cX0_makeOneStep 38 = .ok (.iconst 0, 1) := by decide +kernel
theorem dX0_makeOneStep_39 : decode cX0_makeOneStep 39 = .ok (.ireturn, 1) := by decide +kernel
theorem dX0_makeOneStep_40 : decode cX0_makeOneStep 40 = .ok (.aload_n 0, 1) := by decide +kernel
theorem dX0_makeOneStep_41 : decode cX0_makeOneStep 41 = .ok (.aload_n 0, 1) := by decide +kernel
theorem dX0_makeOneStep_42 : decode cX0_makeOneStep 42 = .ok (.getfield 18, 3) := by decide +kernel
theorem dX0_makeOneStep_45 : decode cX0_makeOneStep 45 = .ok (.getfield 89, 3) := by decide +kernel
theorem dX0_makeOneStep_48 : decode cX0_makeOneStep 48 = .ok (.aload_n 0, 1) := by decide +kernel
theorem dX0_makeOneStep_49 : decode cX0_makeOneStep 49 = .ok (.getfield 18, 3) := by decide +kernel
theorem dX0_makeOneStep_52 : decode cX0_makeOneStep 52 = .ok (.getfield 82, 3) := by decide +kernel
theorem dX0_makeOneStep_55 : decode cX0_makeOneStep 55 = .ok (.iaload, 1) := by decide +kernel
theorem dX0_makeOneStep_56 : decode cX0_makeOneStep 56 = .ok (.invokevirtual 92, 3) := by decide +kernel
theorem dX0_makeOneStep_59 : decode cX0_makeOneStep 59 = .ok (.aload_n 0, 1) := by decide +kernel
theorem dX0_makeOneStep_60 : decode cX0_makeOneStep 60 = .ok (.getfield 18, 3) := by decide +kernel
theorem dX0_makeOneStep_63 : decode cX0_makeOneStep 63 = .ok (.invokevirtual 96, 3) := by decide +kernel
theorem dX0_makeOneStep_66 : decode cX0_makeOneStep 66 = .ok (.aload_n 0, 1) := by decide +kernel
theorem dX0_makeOneStep_67 : decode cX0_makeOneStep 67 = .ok (.dup, 1) := by decide +kernel
theorem dX0_makeOneStep_68 : decode cX0_makeOneStep 68 = .ok (.getfield 59, 3) := by decide +kernel
theorem dX0_makeOneStep_71 : decode cX0_makeOneStep 71 = .ok (.iconst 1, 1) := by decide +kernel
theorem dX0_makeOneStep_72 : decode cX0_makeOneStep 72 = .ok (.iadd, 1) := by decide +kernel
theorem dX0_makeOneStep_73 : decode cX0_makeOneStep 73 = .ok (.putfield 59, 3) := by decide +kernel
theorem dX0_makeOneStep_76 : decode cX0_makeOneStep 76 = .ok (.aload_n 0, 1) := by decide +kernel
theorem dX0_makeOneStep_77 : decode cX0_makeOneStep 77 = .ok (.dup, 1) := by decide +kernel
theorem dX0_makeOneStep_78 : decode cX0_makeOneStep 78 = .ok (.getfield 56, 3) := by decide +kernel
theorem dX0_makeOneStep_81 : decode cX0_makeOneStep 81 = .ok (.iconst 1, 1) := by decide +kernel
theorem dX0_makeOneStep_82 : decode cX0_makeOneStep 82 = .ok (.iadd, 1) := by decide +kernel
theorem dX0_makeOneStep_83 : decode cX0_makeOneStep 83 = .ok (.putfield 56, 3) := by decide +kernel
theorem dX0_makeOneStep_86 : decode cX0_makeOneStep 86 = .ok (.aload_n 0, 1) := by decide +kernel
theorem dX0_makeOneStep_87 : decode cX0_makeOneStep 87 = .ok (.getfield 56, 3) := by decide +kernel
theorem dX0_makeOneStep_90 : decode cX0_makeOneStep 90 = .ok (.aload_n 0, 1) := by decide +kernel
theorem dX0_makeOneStep_91 : decode cX0_makeOneStep 91 = .ok (.getfield 9, 3) := by decide +kernel
theorem dX0_makeOneStep_94 : decode cX0_makeOneStep 94 = .ok (.iconst 0, 1) := by decide +kernel
theorem dX0_makeOneStep_95 : decode cX0_makeOneStep 95 = .ok (.iaload, 1) := by decide +kernel
theorem dX0_makeOneStep_96 : decode cX0_makeOneStep 96 = .ok (.if_icmp .lt 7, 3) := by decide +kernel
theorem dX0_makeOneStep_99 : decode cX0_makeOneStep 99 = .ok (.aload_n 0, 1) := by decide +kernel
theorem dX0_makeOneStep_100 : decode cX0_makeOneStep 100 = .ok (.invokevirtual 99, 3) := by decide +kernel
theorem dX0_makeOneStep_103 : decode cX0_makeOneStep 103 = .ok (.iconst 1, 1) := by decide +kernel
theorem dX0_makeOneStep_104 : decode cX0_makeOneStep 104 = .ok (.ireturn, 1) := by decide +kernel
set_option maxRecDepth 20000 in
theorem ggX0_letStampsFall_X0_letStampFall : GoodIn wsX0_letStampsFall wsX0_letStampFall := goodIn_r _ [8, 9, 10, 11, 12, 3, 13, 14, 15, 16, 17, 18, 19, 20, 29, 30, 31, 32, 33, 34, 35, 36, 37, 38, 39, 40, 41, 46, 47, 48, 49] (by decide +kernel) (by decide +kernel)
set_option maxRecDepth 20000 in
theorem gX0_letStampsFall_X0_letStampFall : GoodIn wsX0_letStampsFall (wsV RX0 102 RX0 yX0_letStampFall wsX0_letStampFall) := goodIn_app (goodIn_of _ (by decide +kernel)) ggX0_letStampsFall_X0_letStampFall
set_option maxRecDepth 20000 in
theorem ggX0_letStampsFall_X1_wearPeg : GoodIn wsX0_letStampsFall wsX1_wearPeg := goodIn_r _ [25, 26, 27, 28, 42, 43, 44, 45] (by decide +kernel) (by decide +kernel)
set_option maxRecDepth 20000 in
theorem gX0_letStampsFall_X1_wearPeg : GoodIn wsX0_letStampsFall (wsV RX0 105 RX1 yX1_wearPeg wsX1_wearPeg) := goodIn_app (goodIn_of _ (by decide +kernel)) ggX0_letStampsFall_X1_wearPeg
theorem dX0_letStampsFall_0 : decode cX0_letStampsFall 0 = .ok (.iconst 0, 1) := by decide +kernel
theorem dX0_letStampsFall_1 : decode cX0_letStampsFall 1 = .ok (.istore_n 2, 1) := by decide +kernel
theorem dX0_letStampsFall_2 : decode cX0_letStampsFall 2 = .ok (.iload_n 2, 1) := by decide +kernel
theorem dX0_letStampsFall_3 : decode cX0_letStampsFall 3 = .ok (.bipush 6, 2) := by decide +kernel
theorem dX0_letStampsFall_5 : decode cX0_letStampsFall 5 = .ok (.if_icmp .ge 43, 3) := by decide +kernel
theorem dX0_letStampsFall_8 : decode cX0_letStampsFall 8 = .ok (.iload_n 1, 1) := by decide +kernel
theorem dX0_letStampsFall_9 : decode cX0_letStampsFall 9 = .ok (.iload_n 2, 1) := by decide +kernel
theorem dX0_letStampsFall_10 : decode cX0_letStampsFall 10 = .ok (.ishr, 1) := by decide +kernel
theorem dX0_letStampsFall_11 : decode cX0_letStampsFall 11 = .ok (.iconst 1, 1) := by decide +kernel
theorem dX0_letStampsFall_12 : decode cX0_letStampsFall 12 = .ok (.iand, 1) := by decide +kernel
theorem dX0_letStampsFall_13 : decode cX0_letStampsFall 13 = .ok (.ifCond .eq 29, 3) := by decide +kernel
theorem dX0_letStampsFall_16 : decode cX0_letStampsFall 16 = .ok (.aload_n 0, 1) := by decide +kernel
theorem dX0_letStampsFall_17 : decode cX0_letStampsFall 17 = .ok (.iload_n 2, 1) := by decide +kernel
theorem dX0_letStampsFall_18 : decode cX0_letStampsFall 18 = .ok (.invokevirtual 102, 3) := by decide +kernel
theorem dX0_letStampsFall_21 : decode cX0_letStampsFall 21 = .ok (.aload_n 0, 1) := by decide +kernel
theorem dX0_letStampsFall_22 : decode cX0_letStampsFall 22 = .ok (.getfield 18, 3) := by decide +kernel
theorem dX0_letStampsFall_25 : decode cX0_letStampsFall 25 = .ok (.aload_n 0, 1) := by decide +kernel
theorem dX0_letStampsFall_26 : decode cX0_letStampsFall 26 = .ok (.getfield 18, 3) := by decide +kernel
theorem dX0_letStampsFall_29 : decode cX0_letStampsFall 29 = .ok (.getfield 82, 3) := by decide +kernel
theorem dX0_letStampsFall_32 : decode cX0_letStampsFall 32 = .ok (.iload_n 2, 1) := by decide +kernel
theorem dX0_letStampsFall_33 : decode cX0_letStampsFall 33 = .ok (.aload_n 0, 1) := by decide +kernel
theorem dX0_letStampsFall_34 : decode cX0_letStampsFall 34 = .ok (.getfield 9, 3) := by decide +kernel
theorem dX0_letStampsFall_37 : decode cX0_letStampsFall 37 = .ok (.iconst 2, 1) := by decide +kernel
theorem dX0_letStampsFall_38 : decode cX0_letStampsFall 38 = .ok (.iaload, 1) := by decide +kernel
theorem dX0_letStampsFall_39 : decode cX0_letStampsFall 39 = .ok (.invokevirtual 105, 3) := by decide +kernel
theorem dX0_letStampsFall_42 : decode cX0_letStampsFall 42 = .ok (.iinc 2 1, 3) := by decide +kernel
theorem dX0_letStampsFall_45 : decode cX0_letStampsFall 45 = .ok (.goto (-43), 3) := by decide +kernel
theorem dX0_letStampsFall_48 : decode cX0_letStampsFall 48 = .ok (.return_, 1) := by decide +kernel
set_option maxRecDepth 20000 in
theorem ggX0_letStampFall_X4_leavesMark : GoodIn wsX0_letStampFall wsX4_leavesMark := goodIn_r _ [10, 11, 12, 13, 27, 28, 29, 30] (by decide +kernel) (by decide +kernel)
set_option maxRecDepth 20000 in
theorem gX0_letStampFall_X4_leavesMark : GoodIn wsX0_letStampFall (wsV RX0 112 RX4 yX4_leavesMark wsX4_leavesMark) := goodIn_app (goodIn_of _ (by decide +kernel)) ggX0_letStampFall_X4_leavesMark
theorem dX0_letStampFall_0 : decode cX0_letStampFall 0 = .ok (.aload_n 0, 1) := by decide +kernel
theorem dX0_letStampFall_1 : decode cX0_letStampFall 1 = .ok (.getfield 50, 3) := by decide +kernel
theorem dX0_letStampFall_4 : decode cX0_letStampFall 4 = .ok (.iload_n 1, 1) := by decide +kernel
theorem dX0_letStampFall_5 : decode cX0_letStampFall 5 = .ok (.ishr, 1) := by decide +kernel
theorem dX0_letStampFall_6 : decode cX0_letStampFall 6 = .ok (.iconst 1, 1) := by decide +kernel
theorem dX0_letStampFall_7 : decode cX0_letStampFall 7 = .ok (.iand, 1) := by decide +kernel
theorem dX0_letStampFall_8 : decode cX0_letStampFall 8 = .ok (.ifCond .eq 21, 3) := by decide +kernel
theorem dX0_letStampFall_11 : decode cX0_letStampFall 11 = .ok (.aload_n 0, 1) := by decide +kernel
theorem dX0_letStampFall_12 : decode cX0_letStampFall 12 = .ok (.iconst 1, 1) := by decide +kernel
theorem dX0_letStampFall_13 : decode cX0_letStampFall 13 = .ok (.putfield 53, 3) := by decide +kernel
theorem dX0_letStampFall_16 : decode cX0_letStampFall 16 = .ok (.aload_n 0, 1) := by decide +kernel
theorem dX0_letStampFall_17 : decode cX0_letStampFall 17 = .ok (.getfield 25, 3) := by decide +kernel
theorem dX0_letStampFall_20 : decode cX0_letStampFall 20 = .ok (.getfield 109, 3) := by decide +kernel
theorem dX0_letStampFall_23 : decode cX0_letStampFall 23 = .ok (.iload_n 1, 1) := by decide +kernel
theorem dX0_letStampFall_24 : decode cX0_letStampFall 24 = .ok (.dup2, 1) := by decide +kernel
theorem dX0_letStampFall_25 : decode cX0_letStampFall 25 = .ok (.iaload, 1) := by decide +kernel
theorem dX0_letStampFall_26 : decode cX0_letStampFall 26 = .ok (.iconst 1, 1) := by decide +kernel
theorem dX0_letStampFall_27 : decode cX0_letStampFall 27 = .ok (.iadd, 1) := by decide +kernel
theorem dX0_letStampFall_28 : decode cX0_letStampFall 28 = .ok (.iastore, 1) := by decide +kernel
theorem dX0_letStampFall_29 : decode cX0_letStampFall 29 = .ok (.aload_n 0, 1) := by decide +kernel
theorem dX0_letStampFall_30 : decode cX0_letStampFall 30 = .ok (.getfield 25, 3) := by decide +kernel
theorem dX0_letStampFall_33 : decode cX0_letStampFall 33 = .ok (.iload_n 1, 1) := by decide +kernel
theorem dX0_letStampFall_34 : decode cX0_letStampFall 34 = .ok (.aload_n 0, 1) := by decide +kernel
theorem dX0_letStampFall_35 : decode cX0_letStampFall 35 = .ok (.getfield 9, 3) := by decide +kernel
theorem dX0_letStampFall_38 : decode cX0_letStampFall 38 = .ok (.iconst 1, 1) := by decide +kernel
theorem dX0_letStampFall_39 : decode cX0_letStampFall 39 = .ok (.iaload, 1) := by decide +kernel
theorem dX0_letStampFall_40 : decode cX0_letStampFall 40 = .ok (.invokevirtual 112, 3) := by decide +kernel
theorem dX0_letStampFall_43 : decode cX0_letStampFall 43 = .ok (.ifCond .eq 15, 3) := by decide +kernel
theorem dX0_letStampFall_46 : decode cX0_letStampFall 46 = .ok (.aload_n 0, 1) := by decide +kernel
theorem dX0_letStampFall_47 : decode cX0_letStampFall 47 = .ok (.dup, 1) := by decide +kernel
theorem dX0_letStampFall_48 : decode cX0_letStampFall 48 = .ok (.getfield 50, 3) := by decide +kernel
theorem dX0_letStampFall_51 : decode cX0_letStampFall 51 = .ok (.iconst 1, 1) := by decide +kernel
theorem dX0_letStampFall_52 : decode cX0_letStampFall 52 = .ok (.iload_n 1, 1) := by decide +kernel
theorem dX0_letStampFall_53 : decode cX0_letStampFall 53 = .ok (.ishl, 1) := by decide +kernel
theorem dX0_letStampFall_54 : decode cX0_letStampFall 54 = .ok (.ior, 1) := by decide +kernel
theorem dX0_letStampFall_55 : decode cX0_letStampFall 55 = .ok (.putfield 50, 3) := by decide +kernel
theorem dX0_letStampFall_58 : decode cX0_letStampFall 58 = .ok (.return_, 1) := by decide +kernel
set_option maxRecDepth 20000 in
theorem ggX0_finishForm_X0_layForm : GoodIn wsX0_finishForm wsX0_layForm := goodIn_r _ [11, 3, 1, 12, 13, 14, 15, 16, 17, 18, 19, 20, 21, 22, 23, 24, 25] (by decide +kernel) (by decide +kernel)
set_option maxRecDepth 20000 in
theorem gX0_finishForm_X0_layForm : GoodIn wsX0_finishForm (wsV RX0 116 RX0 yX0_layForm wsX0_layForm) := goodIn_app (goodIn_of _ (by decide +kernel)) ggX0_finishForm_X0_layForm
theorem dX0_finishForm_0 : decode cX0_finishForm 0 = .ok (.aload_n 0, 1) := by decide +kernel
theorem dX0_finishForm_1 : decode cX0_finishForm 1 = .ok (.getfield 53, 3) := by decide +kernel
theorem dX0_finishForm_4 : decode cX0_finishForm 4 = .ok (.ifCond .eq 16, 3) := by decide +kernel
theorem dX0_finishForm_7 : decode cX0_finishForm 7 = .ok (.aload_n 0, 1) := by decide +kernel
theorem dX0_finishForm_8 : decode cX0_finishForm 8 = .ok (.dup, 1) := by decide +kernel
theorem dX0_finishForm_9 : decode cX0_finishForm 9 = .ok (.getfield 68, 3) := by decide +kernel
theorem dX0_finishForm_12 : decode cX0_finishForm 12 = .ok (.iconst 1, 1) := by decide +kernel
theorem dX0_finishForm_13 : decode cX0_finishForm 13 = .ok (.iadd, 1) := by decide +kernel
theorem dX0_finishForm_14 : decode cX0_finishForm 14 = .ok (.putfield 68, 3) := by decide +kernel
theorem dX0_finishForm_17 : decode cX0_finishForm 17 = .ok (.goto 37, 3) := by decide +kernel
theorem dX0_finishForm_20 : decode cX0_finishForm 20 = .ok (.aload_n 0, 1) := by decide +kernel
theorem dX0_finishForm_21 : decode cX0_finishForm 21 = .ok (.getfield 50, 3) := by decide +kernel
theorem dX0_finishForm_24 : decode cX0_finishForm 24 = .ok (.aload_n 0, 1) := by decide +kernel
theorem dX0_finishForm_25 : decode cX0_finishForm 25 = .ok (.getfield 46, 3) := by decide +kernel
theorem dX0_finishForm_28 : decode cX0_finishForm 28 = .ok (.if_icmp .ne 16, 3) := by decide +kernel
theorem dX0_finishForm_31 : decode cX0_finishForm 31 = .ok (.aload_n 0, 1) := by decide +kernel
theorem dX0_finishForm_32 : decode cX0_finishForm 32 = .ok (.dup, 1) := by decide +kernel
theorem dX0_finishForm_33 : decode cX0_finishForm 33 = .ok (.getfield 62, 3) := by decide +kernel
theorem dX0_finishForm_36 : decode cX0_finishForm 36 = .ok (.iconst 1, 1) := by decide +kernel
theorem dX0_finishForm_37 : decode cX0_finishForm 37 = .ok (.iadd, 1) := by decide +kernel
theorem dX0_finishForm_38 : decode cX0_finishForm 38 = .ok (.putfield 62, 3) := by decide +kernel
theorem dX0_finishForm_41 : decode cX0_finishForm 41 = .ok (.goto 13, 3) := by decide +kernel
theorem dX0_finishForm_44 : decode cX0_finishForm 44 = .ok (.aload_n 0, 1) := by decide +kernel
theorem dX0_finishForm_45 : decode cX0_finishForm 45 = .ok (.dup, 1) := by decide +kernel
theorem dX0_finishForm_46 : decode cX0_finishForm 46 = .ok (.getfield 65, 3) := by decide +kernel
theorem dX0_finishForm_49 : decode cX0_finishForm 49 = .ok (.iconst 1, 1) := by decide +kernel
theorem dX0_finishForm_50 : decode cX0_finishForm 50 = .ok (.iadd, 1) := by decide +kernel
theorem dX0_finishForm_51 : decode cX0_finishForm 51 = .ok (.putfield 65, 3) := by decide +kernel
theorem dX0_finishForm_54 : decode cX0_finishForm 54 = .ok (.aload_n 0, 1) := by decide +kernel
theorem dX0_finishForm_55 : decode cX0_finishForm 55 = .ok (.invokevirtual 116, 3) := by decide +kernel
theorem dX0_finishForm_58 : decode cX0_finishForm 58 = .ok (.return_, 1) := by decide +kernel
theorem dX0_layForm_0 : decode cX0_layForm 0 = .ok (.aload_n 0, 1) := by decide +kernel
theorem dX0_layForm_1 : decode cX0_layForm 1 = .ok (.iconst 0, 1) := by decide +kernel
theorem dX0_layForm_2 : decode cX0_layForm 2 = .ok (.putfield 50, 3) := by decide +kernel
theorem dX0_layForm_5 : decode cX0_layForm 5 = .ok (.aload_n 0, 1) := by decide +kernel
theorem dX0_layForm_6 : decode cX0_layForm 6 = .ok (.iconst 0, 1) := by decide +kernel
theorem dX0_layForm_7 : decode cX0_layForm 7 = .ok (.putfield 53, 3) := by decide +kernel
theorem dX0_layForm_10 : decode cX0_layForm 10 = .ok (.aload_n 0, 1) := by decide +kernel
theorem dX0_layForm_11 : decode cX0_layForm 11 = .ok (.iconst 0, 1) := by decide +kernel
theorem dX0_layForm_12 : decode cX0_layForm 12 = .ok (.putfield 56, 3) := by decide +kernel
theorem dX0_layForm_15 : decode cX0_layForm 15 = .ok (.return_, 1) := by decide +kernel
theorem dX1_init_0 : decode cX1_init 0 = .ok (.aload_n 0, 1) := by decide +kernel
theorem dX1_init_1 : decode cX1_init 1 = .ok (.invokespecial 3, 3) := by decide +kernel
theorem dX1_init_4 : decode cX1_init 4 = .ok (.aload_n 0, 1) := by decide +kernel
theorem dX1_init_5 : decode cX1_init 5 = .ok (.bipush 16, 2) := by decide +kernel
theorem dX1_init_7 : decode cX1_init 7 = .ok (.newarray .int, 2) := by decide +kernel
theorem dX1_init_9 : decode cX1_init 9 = .ok (.putfield 9, 3) := by decide +kernel
theorem dX1_init_12 : decode cX1_init 12 = .ok (.aload_n 0, 1) := by decide +kernel
theorem dX1_init_13 : decode cX1_init 13 = .ok (.bipush 96, 2) := by decide +kernel
theorem dX1_init_15 : decode cX1_init 15 = .ok (.newarray .int, 2) := by decide +kernel
theorem dX1_init_17 : decode cX1_init 17 = .ok (.putfield 15, 3) := by decide +kernel
theorem dX1_init_20 : decode cX1_init 20 = .ok (.return_, 1) := by decide +kernel
theorem dX1_copyFrom_0 : decode cX1_copyFrom 0 = .ok (.aload_n 1, 1) := by decide +kernel
theorem dX1_copyFrom_1 : decode cX1_copyFrom 1 = .ok (.getfield 9, 3) := by decide +kernel
theorem dX1_copyFrom_4 : decode cX1_copyFrom 4 = .ok (.iconst 0, 1) := by decide +kernel
theorem dX1_copyFrom_5 : decode cX1_copyFrom 5 = .ok (.aload_n 0, 1) := by decide +kernel
theorem dX1_copyFrom_6 : decode cX1_copyFrom 6 = .ok (.getfield 9, 3) := by decide +kernel
theorem dX1_copyFrom_9 : decode cX1_copyFrom 9 = .ok (.iconst 0, 1) := by decide +kernel
theorem dX1_copyFrom_10 : decode cX1_copyFrom 10 = .ok (.bipush 16, 2) := by decide +kernel
theorem dX1_copyFrom_12 : decode cX1_copyFrom 12 = .ok (.invokestatic 18, 3) := by decide +kernel
theorem dX1_copyFrom_15 : decode cX1_copyFrom 15 = .ok (.aload_n 1, 1) := by decide +kernel
theorem dX1_copyFrom_16 : decode cX1_copyFrom 16 = .ok (.getfield 15, 3) := by decide +kernel
theorem dX1_copyFrom_19 : decode cX1_copyFrom 19 = .ok (.iconst 0, 1) := by decide +kernel
theorem dX1_copyFrom_20 : decode cX1_copyFrom 20 = .ok (.aload_n 0, 1) := by decide +kernel
theorem dX1_copyFrom_21 : decode cX1_copyFrom 21 = .ok (.getfield 15, 3) := by decide +kernel
theorem dX1_copyFrom_24 : decode cX1_copyFrom 24 = .ok (.iconst 0, 1) := by decide +kernel
theorem dX1_copyFrom_25 : decode cX1_copyFrom 25 = .ok (.bipush 96, 2) := by decide +kernel
theorem dX1_copyFrom_27 : decode cX1_copyFrom 27 = .ok (.invokestatic 18, 3) := by decide +kernel
theorem dX1_copyFrom_30 : decode cX1_copyFrom 30 = .ok (.aload_n 0, 1) := by decide +kernel
theorem dX1_copyFrom_31 : decode cX1_copyFrom 31 = .ok (.aload_n 1, 1) := by decide +kernel
theorem dX1_copyFrom_32 : decode cX1_copyFrom 32 = .ok (.getfield 24, 3) := by decide +kernel
theorem dX1_copyFrom_35 : decode cX1_copyFrom 35 = .ok (.putfield 24, 3) := by decide +kernel
theorem dX1_copyFrom_38 : decode cX1_copyFrom 38 = .ok (.aload_n 0, 1) := by decide +kernel
theorem dX1_copyFrom_39 : decode cX1_copyFrom 39 = .ok (.aload_n 1, 1) := by decide +kernel
theorem dX1_copyFrom_40 : decode cX1_copyFrom 40 = .ok (.getfield 28, 3) := by decide +kernel
theorem dX1_copyFrom_43 : decode cX1_copyFrom 43 = .ok (.putfield 28, 3) := by decide +kernel
theorem dX1_copyFrom_46 : decode cX1_copyFrom 46 = .ok (.return_, 1) := by decide +kernel
theorem dX1_rowBehind_0 : decode cX1_rowBehind 0 = .ok (.iload_n 0, 1) := by decide +kernel
theorem dX1_rowBehind_1 : decode cX1_rowBehind 1 = .ok (.bipush 15, 2) := by decide +kernel
theorem dX1_rowBehind_3 : decode cX1_rowBehind 3 = .ok (.if_icmp .lt 7, 3) := by decide +kernel
theorem dX1_rowBehind_6 : decode cX1_rowBehind 6 = .ok (.iconst 0, 1) := by decide +kernel
theorem dX1_rowBehind_7 : decode cX1_rowBehind 7 = .ok (.goto 6, 3) := by decide +kernel
theorem dX1_rowBehind_10 : decode cX1_rowBehind 10 = .ok (.iload_n 0, 1) := by decide +kernel
theorem dX1_rowBehind_11 : decode cX1_rowBehind 11 = .ok (.iconst 1, 1) := by decide +kernel
theorem dX1_rowBehind_12 : decode cX1_rowBehind 12 = .ok (.iadd, 1) := by decide +kernel
theorem dX1_rowBehind_13 : decode cX1_rowBehind 13 = .ok (.ireturn, 1) := by decide +kernel
set_option maxRecDepth 20000 in
theorem ggX1_goOn_X1_rowBehind : GoodIn wsX1_goOn wsX1_rowBehind := goodIn_r _ [5] (by decide +kernel) (by decide +kernel)
set_option maxRecDepth 20000 in
theorem gX1_goOn_X1_rowBehind : GoodIn wsX1_goOn (va_wsS RX1 31 yX1_rowBehind wsX1_rowBehind) := goodIn_app (goodIn_of _ (by decide +kernel)) ggX1_goOn_X1_rowBehind
theorem dX1_goOn_0 : decode cX1_goOn 0 = .ok (.aload_n 0, 1) := by decide +kernel
theorem dX1_goOn_1 : decode cX1_goOn 1 = .ok (.aload_n 0, 1) := by decide +kernel
theorem dX1_goOn_2 : decode cX1_goOn 2 = .ok (.getfield 24, 3) := by decide +kernel
theorem dX1_goOn_5 : decode cX1_goOn 5 = .ok (.invokestatic 31, 3) := by decide +kernel
theorem dX1_goOn_8 : decode cX1_goOn 8 = .ok (.putfield 24, 3) := by decide +kernel
theorem dX1_goOn_11 : decode cX1_goOn 11 = .ok (.return_, 1) := by decide +kernel
theorem dX1_hasPeg_0 : decode cX1_hasPeg 0 = .ok (.aload_n 0, 1) := by decide +kernel
theorem dX1_hasPeg_1 : decode cX1_hasPeg 1 = .ok (.getfield 9, 3) := by decide +kernel
theorem dX1_hasPeg_4 : decode cX1_hasPeg 4 = .ok (.iload_n 1, 1) := by decide +kernel
theorem dX1_hasPeg_5 : decode cX1_hasPeg 5 = .ok (.iaload, 1) := by decide +kernel
theorem dX1_hasPeg_6 : decode cX1_hasPeg 6 = .ok (.iload_n 2, 1) := by decide +kernel
theorem dX1_hasPeg_7 : decode cX1_hasPeg 7 = .ok (.ishr, 1) := by decide +kernel
theorem dX1_hasPeg_8 : decode cX1_hasPeg 8 = .ok (.iconst 1, 1) := by decide +kernel
theorem dX1_hasPeg_9 : decode cX1_hasPeg 9 = .ok (.iand, 1) := by decide +kernel
theorem dX1_hasPeg_10 : decode cX1_hasPeg 10 = .ok (.ifCond .eq 7, 3) := by decide +kernel
theorem dX1_hasPeg_13 : decode cX1_hasPeg 13 = .ok (.iconst 1, 1) := by decide +kernel
theorem dX1_hasPeg_14 : decode cX1_hasPeg 14 = .ok (.goto 4, 3) := by decide +kernel
theorem dX1_hasPeg_17 : decode cX1_hasPeg 17 = .ok (.iconst 0, 1) := by decide +kernel
theorem dX1_hasPeg_18 : decode cX1_hasPeg 18 = .ok (.ireturn, 1) := by decide +kernel
set_option maxRecDepth 20000 in
theorem ggX1_pegsInRow_J6_bitCount_0f7a4 : GoodIn wsX1_pegsInRow wsJ6_bitCount_0f7a4 := goodIn_r _ [5, 6, 7, 8] (by decide +kernel) (by decide +kernel)
set_option maxRecDepth 20000 in
theorem gX1_pegsInRow_J6_bitCount_0f7a4 : GoodIn wsX1_pegsInRow (va_wsS RX1 35 yJ6_bitCount_0f7a4 wsJ6_bitCount_0f7a4) := goodIn_app (goodIn_of _ (by decide +kernel)) ggX1_pegsInRow_J6_bitCount_0f7a4
theorem dX1_pegsInRow_0 : decode cX1_pegsInRow 0 = .ok (.aload_n 0, 1) := by decide +kernel
theorem dX1_pegsInRow_1 : decode cX1_pegsInRow 1 = .ok (.getfield 9, 3) := by decide +kernel
theorem dX1_pegsInRow_4 : decode cX1_pegsInRow 4 = .ok (.iload_n 1, 1) := by decide +kernel
theorem dX1_pegsInRow_5 : decode cX1_pegsInRow 5 = .ok (.iaload, 1) := by decide +kernel
theorem dX1_pegsInRow_6 : decode cX1_pegsInRow 6 = .ok (.invokestatic 35, 3) := by decide +kernel
theorem dX1_pegsInRow_9 : decode cX1_pegsInRow 9 = .ok (.ireturn, 1) := by decide +kernel
set_option maxRecDepth 20000 in
theorem ggX1_pegsAtPlace_X1_hasPeg : GoodIn wsX1_pegsAtPlace wsX1_hasPeg := goodIn_r _ [5, 6, 7, 8, 9, 10] (by decide +kernel) (by decide +kernel)
set_option maxRecDepth 20000 in
theorem gX1_pegsAtPlace_X1_hasPeg : GoodIn wsX1_pegsAtPlace (wsV RX1 40 RX1 yX1_hasPeg wsX1_hasPeg) := goodIn_app (goodIn_of _ (by decide +kernel)) ggX1_pegsAtPlace_X1_hasPeg
theorem dX1_pegsAtPlace_0 : decode cX1_pegsAtPlace 0 = .ok (.iconst 0, 1) := by decide +kernel
theorem dX1_pegsAtPlace_1 : decode cX1_pegsAtPlace 1 = .ok (.istore_n 2, 1) := by decide +kernel
theorem dX1_pegsAtPlace_2 : decode cX1_pegsAtPlace 2 = .ok (.iconst 0, 1) := by decide +kernel
theorem dX1_pegsAtPlace_3 : decode cX1_pegsAtPlace 3 = .ok (.istore_n 3, 1) := by decide +kernel
theorem dX1_pegsAtPlace_4 : decode cX1_pegsAtPlace 4 = .ok (.iload_n 3, 1) := by decide +kernel
theorem dX1_pegsAtPlace_5 : decode cX1_pegsAtPlace 5 = .ok (.bipush 16, 2) := by decide +kernel
theorem dX1_pegsAtPlace_7 : decode cX1_pegsAtPlace 7 = .ok (.if_icmp .ge 21, 3) := by decide +kernel
theorem dX1_pegsAtPlace_10 : decode cX1_pegsAtPlace 10 = .ok (.aload_n 0, 1) := by decide +kernel
theorem dX1_pegsAtPlace_11 : decode cX1_pegsAtPlace 11 = .ok (.iload_n 3, 1) := by decide +kernel
theorem dX1_pegsAtPlace_12 : decode cX1_pegsAtPlace 12 = .ok (.iload_n 1, 1) := by decide +kernel
theorem dX1_pegsAtPlace_13 : decode cX1_pegsAtPlace 13 = .ok (.invokevirtual 40, 3) := by decide +kernel
theorem dX1_pegsAtPlace_16 : decode cX1_pegsAtPlace 16 = .ok (.ifCond .eq 6, 3) := by decide +kernel
theorem dX1_pegsAtPlace_19 : decode cX1_pegsAtPlace 19 = .ok (.iinc 2 1, 3) := by decide +kernel
theorem dX1_pegsAtPlace_22 : decode cX1_pegsAtPlace 22 = .ok (.iinc 3 1, 3) := by decide +kernel
theorem dX1_pegsAtPlace_25 : decode cX1_pegsAtPlace 25 = .ok (.goto (-21), 3) := by decide +kernel
theorem dX1_pegsAtPlace_28 : decode cX1_pegsAtPlace 28 = .ok (.iload_n 2, 1) := by decide +kernel
theorem dX1_pegsAtPlace_29 : decode cX1_pegsAtPlace 29 = .ok (.ireturn, 1) := by decide +kernel
set_option maxRecDepth 20000 in
theorem ggX1_allPegs_X1_pegsInRow : GoodIn wsX1_allPegs wsX1_pegsInRow := goodIn_r _ [5, 6, 7, 8, 9, 10, 11, 12, 13, 14, 15, 16, 17] (by decide +kernel) (by decide +kernel)
set_option maxRecDepth 20000 in
theorem gX1_allPegs_X1_pegsInRow : GoodIn wsX1_allPegs (wsV RX1 44 RX1 yX1_pegsInRow wsX1_pegsInRow) := goodIn_app (goodIn_of _ (by decide +kernel)) ggX1_allPegs_X1_pegsInRow
theorem dX1_allPegs_0 : decode cX1_allPegs 0 = .ok (.iconst 0, 1) := by decide +kernel
theorem dX1_allPegs_1 : decode cX1_allPegs 1 = .ok (.istore_n 1, 1) := by decide +kernel
theorem dX1_allPegs_2 : decode cX1_allPegs 2 = .ok (.iconst 0, 1) := by decide +kernel
theorem dX1_allPegs_3 : decode cX1_allPegs 3 = .ok (.istore_n 2, 1) := by decide +kernel
theorem dX1_allPegs_4 : decode cX1_allPegs 4 = .ok (.iload_n 2, 1) := by decide +kernel
theorem dX1_allPegs_5 : decode cX1_allPegs 5 = .ok (.bipush 16, 2) := by decide +kernel
theorem dX1_allPegs_7 : decode cX1_allPegs 7 = .ok (.if_icmp .ge 17, 3) := by decide +kernel
theorem dX1_allPegs_10 : decode cX1_allPegs 10 = .ok (.iload_n 1, 1) := by decide +kernel
theorem dX1_allPegs_11 : decode cX1_allPegs 11 = .ok (.aload_n 0, 1) := by decide +kernel
theorem dX1_allPegs_12 : decode cX1_allPegs 12 = .ok (.iload_n 2, 1) := by decide +kernel
theorem dX1_allPegs_13 : decode cX1_allPegs 13 = .ok (.invokevirtual 44, 3) := by decide +kernel
theorem dX1_allPegs_16 : decode cX1_allPegs 16 = .ok (.iadd, 1) := by decide +kernel
theorem dX1_allPegs_17 : decode cX1_allPegs 17 = .ok (.istore_n 1, 1) := by decide +kernel
theorem dX1_allPegs_18 : decode cX1_allPegs 18 = .ok (.iinc 2 1, 3) := by decide +kernel
theorem dX1_allPegs_21 : decode cX1_allPegs 21 = .ok (.goto (-17), 3) := by decide +kernel
theorem dX1_allPegs_24 : decode cX1_allPegs 24 = .ok (.iload_n 1, 1) := by decide +kernel
theorem dX1_allPegs_25 : decode cX1_allPegs 25 = .ok (.ireturn, 1) := by decide +kernel
set_option maxRecDepth 20000 in
theorem ggX1_giveRow_X1_hasPeg : GoodIn wsX1_giveRow wsX1_hasPeg := goodIn_r _ [7, 2, 8, 9, 10, 11] (by decide +kernel) (by decide +kernel)
set_option maxRecDepth 20000 in
theorem gX1_giveRow_X1_hasPeg : GoodIn wsX1_giveRow (wsV RX1 40 RX1 yX1_hasPeg wsX1_hasPeg) := goodIn_app (goodIn_of _ (by decide +kernel)) ggX1_giveRow_X1_hasPeg
theorem dX1_giveRow_0 : decode cX1_giveRow 0 = .ok (.iconst 0, 1) := by decide +kernel
theorem dX1_giveRow_1 : decode cX1_giveRow 1 = .ok (.istore_n 3, 1) := by decide +kernel
theorem dX1_giveRow_2 : decode cX1_giveRow 2 = .ok (.iload_n 3, 1) := by decide +kernel
theorem dX1_giveRow_3 : decode cX1_giveRow 3 = .ok (.bipush 6, 2) := by decide +kernel
theorem dX1_giveRow_5 : decode cX1_giveRow 5 = .ok (.if_icmp .ge 30, 3) := by decide +kernel
theorem dX1_giveRow_8 : decode cX1_giveRow 8 = .ok (.aload_n 0, 1) := by decide +kernel
theorem dX1_giveRow_9 : decode cX1_giveRow 9 = .ok (.iload_n 1, 1) := by decide +kernel
theorem dX1_giveRow_10 : decode cX1_giveRow 10 = .ok (.iload_n 3, 1) := by decide +kernel
theorem dX1_giveRow_11 : decode cX1_giveRow 11 = .ok (.invokevirtual 40, 3) := by decide +kernel
theorem dX1_giveRow_14 : decode cX1_giveRow 14 = .ok (.ifCond .ne 15, 3) := by decide +kernel
theorem dX1_giveRow_17 : decode cX1_giveRow 17 = .ok (.aload_n 0, 1) := by decide +kernel
theorem dX1_giveRow_18 : decode cX1_giveRow 18 = .ok (.getfield 15, 3) := by decide +kernel
theorem dX1_giveRow_21 : decode cX1_giveRow 21 = .ok (.iload_n 1, 1) := by decide +kernel
theorem dX1_giveRow_22 : decode cX1_giveRow 22 = .ok (.bipush 6, 2) := by decide +kernel
theorem dX1_giveRow_24 : decode cX1_giveRow 24 = .ok (.imul, 1) := by decide +kernel
theorem dX1_giveRow_25 : decode cX1_giveRow 25 = .ok (.iload_n 3, 1) := by decide +kernel
theorem dX1_giveRow_26 : decode cX1_giveRow 26 = .ok (.iadd, 1) := by decide +kernel
theorem dX1_giveRow_27 : decode cX1_giveRow 27 = .ok (.iconst 0, 1) := by decide +kernel
theorem dX1_giveRow_28 : decode cX1_giveRow 28 = .ok (.iastore, 1) := by decide +kernel
theorem dX1_giveRow_29 : decode cX1_giveRow 29 = .ok (.iinc 3 1, 3) := by decide +kernel
theorem dX1_giveRow_32 : decode cX1_giveRow 32 = .ok (.goto (-30), 3) := by decide +kernel
theorem dX1_giveRow_35 : decode cX1_giveRow 35 = .ok (.aload_n 0, 1) := by decide +kernel
theorem dX1_giveRow_36 : decode cX1_giveRow 36 = .ok (.getfield 9, 3) := by decide +kernel
theorem dX1_giveRow_39 : decode cX1_giveRow 39 = .ok (.iload_n 1, 1) := by decide +kernel
theorem dX1_giveRow_40 : decode cX1_giveRow 40 = .ok (.iload_n 2, 1) := by decide +kernel
theorem dX1_giveRow_41 : decode cX1_giveRow 41 = .ok (.iastore, 1) := by decide +kernel
theorem dX1_giveRow_42 : decode cX1_giveRow 42 = .ok (.return_, 1) := by decide +kernel
theorem dX1_wearPeg_0 : decode cX1_wearPeg 0 = .ok (.iload_n 1, 1) := by decide +kernel
theorem dX1_wearPeg_1 : decode cX1_wearPeg 1 = .ok (.bipush 6, 2) := by decide +kernel
theorem dX1_wearPeg_3 : decode cX1_wearPeg 3 = .ok (.imul, 1) := by decide +kernel
theorem dX1_wearPeg_4 : decode cX1_wearPeg 4 = .ok (.iload_n 2, 1) := by decide +kernel
theorem dX1_wearPeg_5 : decode cX1_wearPeg 5 = .ok (.iadd, 1) := by decide +kernel
theorem dX1_wearPeg_6 : decode cX1_wearPeg 6 = .ok (.istore 4, 2) := by decide +kernel
theorem dX1_wearPeg_8 : decode cX1_wearPeg 8 = .ok (.aload_n 0, 1) := by decide +kernel
theorem dX1_wearPeg_9 : decode cX1_wearPeg 9 = .ok (.getfield 15, 3) := by decide +kernel
theorem dX1_wearPeg_12 : decode cX1_wearPeg 12 = .ok (.iload 4, 2) := by decide +kernel
theorem dX1_wearPeg_14 : decode cX1_wearPeg 14 = .ok (.dup2, 1) := by decide +kernel
theorem dX1_wearPeg_15 : decode cX1_wearPeg 15 = .ok (.iaload, 1) := by decide +kernel
theorem dX1_wearPeg_16 : decode cX1_wearPeg 16 = .ok (.iconst 1, 1) := by decide +kernel
theorem dX1_wearPeg_17 : decode cX1_wearPeg 17 = .ok (.iadd, 1) := by decide +kernel
theorem dX1_wearPeg_18 : decode cX1_wearPeg 18 = .ok (.iastore, 1) := by decide +kernel
theorem dX1_wearPeg_19 : decode cX1_wearPeg 19 = .ok (.iload_n 3, 1) := by decide +kernel
theorem dX1_wearPeg_20 : decode cX1_wearPeg 20 = .ok (.ifCond .eq 38, 3) := by decide +kernel
theorem dX1_wearPeg_23 : decode cX1_wearPeg 23 = .ok (.aload_n 0, 1) := by decide +kernel
theorem dX1_wearPeg_24 : decode cX1_wearPeg 24 = .ok (.getfield 15, 3) := by decide +kernel
theorem dX1_wearPeg_27 : decode cX1_wearPeg 27 = .ok (.iload 4, 2) := by decide +kernel
theorem dX1_wearPeg_29 : decode cX1_wearPeg 29 = .ok (.iaload, 1) := by decide +kernel
theorem dX1_wearPeg_30 : decode cX1_wearPeg 30 = .ok (.iload_n 3, 1) := by decide +kernel
theorem dX1_wearPeg_31 : decode cX1_wearPeg 31 = .ok (.if_icmp .lt 27, 3) := by decide +kernel
theorem dX1_wearPeg_34 : decode cX1_wearPeg 34 = .ok (.aload_n 0, 1) := by decide +kernel
theorem dX1_wearPeg_35 : decode cX1_wearPeg 35 = .ok (.getfield 9, 3) := by decide +kernel
theorem dX1_wearPeg_38 : decode cX1_wearPeg 38 = .ok (.iload_n 1, 1) := by decide +kernel
theorem dX1_wearPeg_39 : decode cX1_wearPeg 39 = .ok (.dup2, 1) := by decide +kernel
theorem dX1_wearPeg_40 : decode cX1_wearPeg 40 = .ok (.iaload, 1) := by decide +kernel
theorem dX1_wearPeg_41 : decode cX1_wearPeg 41 = .ok (.iconst 1, 1) := by decide +kernel
theorem dX1_wearPeg_42 : decode cX1_wearPeg 42 = .ok (.iload_n 2, 1) := by decide +kernel
theorem dX1_wearPeg_43 : decode cX1_wearPeg 43 = .ok (.ishl, 1) := by decide +kernel
theorem dX1_wearPeg_44 : decode cX1_wearPeg 44 = .ok (.iconst (-1), 1) := by decide +kernel
theorem dX1_wearPeg_45 : decode cX1_wearPeg 45 = .ok (.ixor, 1) := by decide +kernel
theorem dX1_wearPeg_46 : decode cX1_wearPeg 46 = .ok (.iand, 1) := by decide +kernel
theorem dX1_wearPeg_47 : decode cX1_wearPeg 47 = .ok (.iastore, 1) := by decide +kernel
theorem dX1_wearPeg_48 : decode cX1_wearPeg 48 = .ok (.aload_n 0, 1) := by decide +kernel
theorem dX1_wearPeg_49 : decode cX1_wearPeg 49 = .ok (.dup, 1) := by decide +kernel
theorem dX1_wearPeg_50 : decode cX1_wearPeg 50 = .ok (.getfield 28, 3) := by decide +kernel
theorem dX1_wearPeg_53 : decode cX1_wearPeg 53 = .ok (.iconst 1, 1) := by decide +kernel
theorem dX1_wearPeg_54 : decode cX1_wearPeg 54 = .ok (.iadd, 1) := by decide +kernel
theorem dX1_wearPeg_55 : decode cX1_wearPeg 55 = .ok (.putfield 28, 3) := by decide +kernel
theorem dX1_wearPeg_58 : decode cX1_wearPeg 58 = .ok (.return_, 1) := by decide +kernel
set_option maxRecDepth 20000 in
theorem ggX2_init_X0_init : GoodIn wsX2_init wsX0_init := goodIn_r _ [9, 10, 2, 3, 11, 12, 13, 14, 15, 16, 17, 18, 19, 20, 21, 22, 23, 24, 25, 26, 27, 28, 29, 30, 31, 32, 33, 34, 35, 36, 37, 38, 39, 40, 41, 42, 43, 44, 45, 49, 50, 51, 52, 53, 54, 55, 56] (by decide +kernel) (by decide +kernel)
set_option maxRecDepth 20000 in
theorem gX2_init_X0_init_n9 : GoodIn wsX2_init (wsX0_init) := ggX2_init_X0_init
theorem dX2_init_0 : decode cX2_init 0 = .ok (.aload_n 0, 1) := by decide +kernel
theorem dX2_init_1 : decode cX2_init 1 = .ok (.invokespecial 1, 3) := by decide +kernel
theorem dX2_init_4 : decode cX2_init 4 = .ok (.aload_n 0, 1) := by decide +kernel
theorem dX2_init_5 : decode cX2_init 5 = .ok (.bipush 6, 2) := by decide +kernel
theorem dX2_init_7 : decode cX2_init 7 = .ok (.anewarray 7, 3) := by decide +kernel
theorem dX2_init_10 : decode cX2_init 10 = .ok (.dup, 1) := by decide +kernel
theorem dX2_init_11 : decode cX2_init 11 = .ok (.iconst 0, 1) := by decide +kernel
theorem dX2_init_12 : decode cX2_init 12 = .ok (.new 7, 3) := by decide +kernel
theorem dX2_init_15 : decode cX2_init 15 = .ok (.dup, 1) := by decide +kernel
theorem dX2_init_16 : decode cX2_init 16 = .ok (.invokespecial 9, 3) := by decide +kernel
theorem dX2_init_19 : decode cX2_init 19 = .ok (.aastore, 1) := by decide +kernel
theorem dX2_init_20 : decode cX2_init 20 = .ok (.dup, 1) := by decide +kernel
theorem dX2_init_21 : decode cX2_init 21 = .ok (.iconst 1, 1) := by decide +kernel
theorem dX2_init_22 : decode cX2_init 22 = .ok (.new 7, 3) := by decide +kernel
theorem dX2_init_25 : decode cX2_init 25 = .ok (.dup, 1) := by decide +kernel
theorem dX2_init_26 : decode cX2_init 26 = .ok (.invokespecial 9, 3) := by decide +kernel
theorem dX2_init_29 : decode cX2_init 29 = .ok (.aastore, 1) := by decide +kernel
theorem dX2_init_30 : decode cX2_init 30 = .ok (.dup, 1) := by decide +kernel
theorem dX2_init_31 : decode cX2_init 31 = .ok (.iconst 2, 1) := by decide +kernel
theorem dX2_init_32 : decode cX2_init 32 = .ok (.new 7, 3) := by decide +kernel
theorem dX2_init_35 : decode cX2_init 35 = .ok (.dup, 1) := by decide +kernel
theorem dX2_init_36 : decode cX2_init 36 = .ok (.invokespecial 9, 3) := by decide +kernel
theorem dX2_init_39 : decode cX2_init 39 = .ok (.aastore, 1) := by decide +kernel
theorem dX2_init_40 : decode cX2_init 40 = .ok (.dup, 1) := by decide +kernel
theorem dX2_init_41 : decode cX2_init 41 = .ok (.iconst 3, 1) := by decide +kernel
theorem dX2_init_42 : decode cX2_init 42 = .ok (.new 7, 3) := by decide +kernel
theorem dX2_init_45 : decode cX2_init 45 = .ok (.dup, 1) := by decide +kernel
theorem dX2_init_46 : decode cX2_init 46 = .ok (.invokespecial 9, 3) := by decide +kernel
theorem dX2_init_49 : decode cX2_init 49 = .ok (.aastore, 1) := by decide +kernel
theorem dX2_init_50 : decode cX2_init 50 = .ok (.dup, 1) := by decide +kernel
theorem dX2_init_51 : decode cX2_init 51 = .ok (.iconst 4, 1) := by decide +kernel
theorem dX2_init_52 : decode cX2_init 52 = .ok (.new 7, 3) := by decide +kernel
theorem dX2_init_55 : decode cX2_init 55 = .ok (.dup, 1) := by decide +kernel
theorem dX2_init_56 : decode cX2_init 56 = .ok (.invokespecial 9, 3) := by decide +kernel
theorem dX2_init_59 : decode cX2_init 59 = .ok (.aastore, 1) := by decide +kernel
theorem dX2_init_60 : decode cX2_init 60 = .ok (.dup, 1) := by decide +kernel
theorem dX2_init_61 : decode cX2_init 61 = .ok (.iconst 5, 1) := by decide +kernel
theorem dX2_init_62 : decode cX2_init 62 = .ok (.new 7, 3) := by decide +kernel
theorem dX2_init_65 : decode cX2_init 65 = .ok (.dup, 1) := by decide +kernel
theorem dX2_init_66 : decode cX2_init 66 = .ok (.invokespecial 9, 3) := by decide +kernel
theorem dX2_init_69 : decode cX2_init 69 = .ok (.aastore, 1) := by decide +kernel
theorem dX2_init_70 : decode cX2_init 70 = .ok (.putfield 10, 3) := by decide +kernel
theorem dX2_init_73 : decode cX2_init 73 = .ok (.return_, 1) := by decide +kernel
set_option maxRecDepth 20000 in
theorem ggX2_keep_X0_copyFrom : GoodIn wsX2_keep wsX0_copyFrom := goodIn_r _ [12, 13, 14, 15, 16, 17, 18, 19, 20, 21, 22, 23, 24, 25, 26, 27, 28, 29, 30, 31, 32, 33, 34, 35, 36, 37, 38, 39, 40, 41, 42, 43, 44, 45, 46, 47, 48, 49, 53, 54, 55, 56, 57, 58, 59, 60, 61, 62, 63, 64, 65, 66, 67, 68, 69, 70, 71, 72, 73] (by decide +kernel) (by decide +kernel)
set_option maxRecDepth 20000 in
theorem gX2_keep_X0_copyFrom : GoodIn wsX2_keep (wsV RX2 20 RX0 yX0_copyFrom wsX0_copyFrom) := goodIn_app (goodIn_of _ (by decide +kernel)) ggX2_keep_X0_copyFrom
theorem dX2_keep_0 : decode cX2_keep 0 = .ok (.aload_n 0, 1) := by decide +kernel
theorem dX2_keep_1 : decode cX2_keep 1 = .ok (.getfield 10, 3) := by decide +kernel
theorem dX2_keep_4 : decode cX2_keep 4 = .ok (.aload_n 0, 1) := by decide +kernel
theorem dX2_keep_5 : decode cX2_keep 5 = .ok (.getfield 16, 3) := by decide +kernel
theorem dX2_keep_8 : decode cX2_keep 8 = .ok (.aaload, 1) := by decide +kernel
theorem dX2_keep_9 : decode cX2_keep 9 = .ok (.aload_n 1, 1) := by decide +kernel
theorem dX2_keep_10 : decode cX2_keep 10 = .ok (.invokevirtual 20, 3) := by decide +kernel
theorem dX2_keep_13 : decode cX2_keep 13 = .ok (.aload_n 0, 1) := by decide +kernel
theorem dX2_keep_14 : decode cX2_keep 14 = .ok (.aload_n 0, 1) := by decide +kernel
theorem dX2_keep_15 : decode cX2_keep 15 = .ok (.getfield 16, 3) := by decide +kernel
theorem dX2_keep_18 : decode cX2_keep 18 = .ok (.iconst 5, 1) := by decide +kernel
theorem dX2_keep_19 : decode cX2_keep 19 = .ok (.if_icmp .lt 7, 3) := by decide +kernel
theorem dX2_keep_22 : decode cX2_keep 22 = .ok (.iconst 0, 1) := by decide +kernel
theorem dX2_keep_23 : decode cX2_keep 23 = .ok (.goto 9, 3) := by decide +kernel
theorem dX2_keep_26 : decode cX2_keep 26 = .ok (.aload_n 0, 1) := by decide +kernel
theorem dX2_keep_27 : decode cX2_keep 27 = .ok (.getfield 16, 3) := by decide +kernel
theorem dX2_keep_30 : decode cX2_keep 30 = .ok (.iconst 1, 1) := by decide +kernel
theorem dX2_keep_31 : decode cX2_keep 31 = .ok (.iadd, 1) := by decide +kernel
theorem dX2_keep_32 : decode cX2_keep 32 = .ok (.putfield 16, 3) := by decide +kernel
theorem dX2_keep_35 : decode cX2_keep 35 = .ok (.aload_n 0, 1) := by decide +kernel
theorem dX2_keep_36 : decode cX2_keep 36 = .ok (.aload_n 0, 1) := by decide +kernel
theorem dX2_keep_37 : decode cX2_keep 37 = .ok (.getfield 24, 3) := by decide +kernel
theorem dX2_keep_40 : decode cX2_keep 40 = .ok (.iconst 1, 1) := by decide +kernel
theorem dX2_keep_41 : decode cX2_keep 41 = .ok (.iadd, 1) := by decide +kernel
theorem dX2_keep_42 : decode cX2_keep 42 = .ok (.bipush 6, 2) := by decide +kernel
theorem dX2_keep_44 : decode cX2_keep 44 = .ok (.invokestatic 27, 3) := by decide +kernel
theorem dX2_keep_47 : decode cX2_keep 47 = .ok (.putfield 24, 3) := by decide +kernel
theorem dX2_keep_50 : decode cX2_keep 50 = .ok (.return_, 1) := by decide +kernel
set_option maxRecDepth 20000 in
theorem ggX2_takeBack_X0_copyFrom : GoodIn wsX2_takeBack wsX0_copyFrom := goodIn_r _ [8, 9, 10, 11, 12, 13, 14, 15, 16, 17, 18, 19, 20, 21, 22, 23, 24, 25, 26, 27, 28, 29, 30, 31, 32, 33, 34, 35, 36, 37, 38, 39, 40, 41, 42, 43, 44, 45, 49, 50, 51, 52, 53, 54, 55, 56, 57, 58, 59, 60, 61, 62, 63, 64, 65, 66, 67, 68, 69] (by decide +kernel) (by decide +kernel)
set_option maxRecDepth 20000 in
theorem gX2_takeBack_X0_copyFrom : GoodIn wsX2_takeBack (wsV RX2 20 RX0 yX0_copyFrom wsX0_copyFrom) := goodIn_app (goodIn_of _ (by decide +kernel)) ggX2_takeBack_X0_copyFrom
theorem dX2_takeBack_0 : decode cX2_takeBack 0 = .ok (.aload_n 0, 1) := by decide +kernel
theorem dX2_takeBack_1 : decode cX2_takeBack 1 = .ok (.aload_n 0, 1) := by decide +kernel
theorem dX2_takeBack_2 : decode cX2_takeBack 2 = .ok (.getfield 16, 3) := by decide +kernel
theorem dX2_takeBack_5 : decode cX2_takeBack 5 = .ok (.ifCond .ne 7, 3) := by decide +kernel
theorem dX2_takeBack_8 : decode cX2_takeBack 8 = .ok (.iconst 5, 1) := by decide +kernel
theorem dX2_takeBack_9 : decode cX2_takeBack 9 = .ok (.goto 9, 3) := by decide +kernel
theorem dX2_takeBack_12 : decode cX2_takeBack 12 = .ok (.aload_n 0, 1) := by decide +kernel
theorem dX2_takeBack_13 : decode cX2_takeBack 13 = .ok (.getfield 16, 3) := by decide +kernel
theorem dX2_takeBack_16 : decode cX2_takeBack 16 = .ok (.iconst 1, 1) := by decide +kernel
theorem dX2_takeBack_17 : decode cX2_takeBack 17 = .ok (.isub, 1) := by decide +kernel
theorem dX2_takeBack_18 : decode cX2_takeBack 18 = .ok (.putfield 16, 3) := by decide +kernel
theorem dX2_takeBack_21 : decode cX2_takeBack 21 = .ok (.aload_n 0, 1) := by decide +kernel
theorem dX2_takeBack_22 : decode cX2_takeBack 22 = .ok (.dup, 1) := by decide +kernel
theorem dX2_takeBack_23 : decode cX2_takeBack 23 = .ok (.getfield 24, 3) := by decide +kernel
theorem dX2_takeBack_26 : decode cX2_takeBack 26 = .ok (.iconst 1, 1) := by decide +kernel
theorem dX2_takeBack_27 : decode cX2_takeBack 27 = .ok (.isub, 1) := by decide +kernel
theorem dX2_takeBack_28 : decode cX2_takeBack 28 = .ok (.putfield 24, 3) := by decide +kernel
theorem dX2_takeBack_31 : decode cX2_takeBack 31 = .ok (.aload_n 1, 1) := by decide +kernel
theorem dX2_takeBack_32 : decode cX2_takeBack 32 = .ok (.aload_n 0, 1) := by decide +kernel
theorem dX2_takeBack_33 : decode cX2_takeBack 33 = .ok (.getfield 10, 3) := by decide +kernel
theorem dX2_takeBack_36 : decode cX2_takeBack 36 = .ok (.aload_n 0, 1) := by decide +kernel
theorem dX2_takeBack_37 : decode cX2_takeBack 37 = .ok (.getfield 16, 3) := by decide +kernel
theorem dX2_takeBack_40 : decode cX2_takeBack 40 = .ok (.aaload, 1) := by decide +kernel
theorem dX2_takeBack_41 : decode cX2_takeBack 41 = .ok (.invokevirtual 20, 3) := by decide +kernel
theorem dX2_takeBack_44 : decode cX2_takeBack 44 = .ok (.return_, 1) := by decide +kernel
theorem dX3_init_0 : decode cX3_init 0 = .ok (.aload_n 0, 1) := by decide +kernel
theorem dX3_init_1 : decode cX3_init 1 = .ok (.invokespecial 3, 3) := by decide +kernel
theorem dX3_init_4 : decode cX3_init 4 = .ok (.aload_n 0, 1) := by decide +kernel
theorem dX3_init_5 : decode cX3_init 5 = .ok (.bipush 60, 2) := by decide +kernel
theorem dX3_init_7 : decode cX3_init 7 = .ok (.newarray .char, 2) := by decide +kernel
theorem dX3_init_9 : decode cX3_init 9 = .ok (.putfield 11, 3) := by decide +kernel
theorem dX3_init_12 : decode cX3_init 12 = .ok (.return_, 1) := by decide +kernel
theorem dX3_charactersIn_0 : decode cX3_charactersIn 0 = .ok (.lload_n 0, 1) := by decide +kernel
theorem dX3_charactersIn_1 : decode cX3_charactersIn 1 = .ok (.lstore_n 2, 1) := by decide +kernel
theorem dX3_charactersIn_2 : decode cX3_charactersIn 2 = .ok (.iconst 0, 1) := by decide +kernel
theorem dX3_charactersIn_3 : decode cX3_charactersIn 3 = .ok (.istore 4, 2) := by decide +kernel
theorem dX3_charactersIn_5 : decode cX3_charactersIn 5 = .ok (.iload 4, 2) := by decide +kernel
theorem dX3_charactersIn_7 : decode cX3_charactersIn 7 = .ok (.bipush 8, 2) := by decide +kernel
theorem dX3_charactersIn_9 : decode cX3_charactersIn 9 = .ok (.if_icmp .ge 48, 3) := by decide +kernel
theorem dX3_charactersIn_12 : decode cX3_charactersIn 12 = .ok (.lload_n 2, 1) := by decide +kernel
theorem dX3_charactersIn_13 : decode cX3_charactersIn 13 = .ok (.ldc2_w 15, 3) := by decide +kernel
theorem dX3_charactersIn_16 : decode cX3_charactersIn 16 = .ok (.land, 1) := by decide +kernel
theorem dX3_charactersIn_17 : decode cX3_charactersIn 17 = .ok (.lconst 0, 1) := by decide +kernel
theorem dX3_charactersIn_18 : decode cX3_charactersIn 18 = .ok (.lcmp, 1) := by decide +kernel
theorem dX3_charactersIn_19 : decode cX3_charactersIn 19 = .ok (.ifCond .eq 38, 3) := by decide +kernel
theorem dX3_charactersIn_22 : decode cX3_charactersIn 22 = .ok (.lload_n 2, 1) := by decide +kernel
theorem dX3_charactersIn_23 : decode cX3_charactersIn 23 = .ok (.ldc2_w 15, 3) := by decide +kernel
theorem dX3_charactersIn_26 : decode cX3_charactersIn 26 = .ok (.land, 1) := by decide +kernel
theorem dX3_charactersIn_27 : decode cX3_charactersIn 27 = .ok (.l2i, 1) := by decide +kernel
theorem dX3_charactersIn_28 : decode cX3_charactersIn 28 = .ok (.istore 5, 2) := by decide +kernel
theorem dX3_charactersIn_30 : decode cX3_charactersIn 30 = .ok (.iload 5, 2) := by decide +kernel
theorem dX3_charactersIn_32 : decode cX3_charactersIn 32 = .ok (.bipush 33, 2) := by decide +kernel
theorem dX3_charactersIn_34 : decode cX3_charactersIn 34 = .ok (.if_icmp .lt 10, 3) := by decide +kernel
theorem dX3_charactersIn_37 : decode cX3_charactersIn 37 = .ok (.iload 5, 2) := by decide +kernel
theorem dX3_charactersIn_39 : decode cX3_charactersIn 39 = .ok (.bipush 126, 2) := by decide +kernel
theorem dX3_charactersIn_41 : decode cX3_charactersIn 41 = .ok (.if_icmp .le 5, 3) := by decide +kernel
theorem dX3_charactersIn_44 : decode cX3_charactersIn 44 = .ok (.iconst 0, 1) := by decide +kernel
theorem dX3_charactersIn_45 : decode cX3_charactersIn 45 = .ok (.ireturn, 1) := by decide +kernel
theorem dX3_charactersIn_46 : decode cX3_charactersIn 46 = .ok (.lload_n 2, 1) := by decide +kernel
theorem dX3_charactersIn_47 : decode cX3_charactersIn 47 = .ok (.bipush 8, 2) := by decide +kernel
theorem dX3_charactersIn_49 : decode cX3_charactersIn 49 = .ok (.lushr, 1) := by decide +kernel
theorem dX3_charactersIn_50 : decode cX3_charactersIn 50 = .ok (.lstore_n 2, 1) := by decide +kernel
theorem dX3_charactersIn_51 : decode cX3_charactersIn 51 = .ok (.iinc 4 1, 3) := by decide +kernel
theorem dX3_charactersIn_54 : decode cX3_charactersIn 54 = .ok (.goto (-49), 3) := by decide +kernel
theorem dX3_charactersIn_57 : decode cX3_charactersIn 57 = .ok (.lload_n 2, 1) := by decide +kernel
theorem dX3_charactersIn_58 : decode cX3_charactersIn 58 = .ok (.lconst 0, 1) := by decide +kernel
theorem dX3_charactersIn_59 : decode cX3_charactersIn 59 = .ok (.lcmp, 1) := by decide +kernel
theorem dX3_charactersIn_60 : decode cX3_charactersIn 60 = .ok (.ifCond .ne 8, 3) := by decide +kernel
theorem dX3_charactersIn_63 : decode cX3_charactersIn 63 = .ok (.iload 4, 2) := by decide +kernel
theorem dX3_charactersIn_65 : decode cX3_charactersIn 65 = .ok (.goto 4, 3) := by decide +kernel
theorem dX3_charactersIn_68 : decode cX3_charactersIn 68 = .ok (.iconst 0, 1) := by decide +kernel
theorem dX3_charactersIn_69 : decode cX3_charactersIn 69 = .ok (.ireturn, 1) := by decide +kernel
theorem dX3_append_0 : decode cX3_append 0 = .ok (.iconst 0, 1) := by decide +kernel
theorem dX3_append_1 : decode cX3_append 1 = .ok (.istore 4, 2) := by decide +kernel
theorem dX3_append_3 : decode cX3_append 3 = .ok (.iload 4, 2) := by decide +kernel
theorem dX3_append_5 : decode cX3_append 5 = .ok (.iload_n 3, 1) := by decide +kernel
theorem dX3_append_6 : decode cX3_append 6 = .ok (.if_icmp .ge 38, 3) := by decide +kernel
theorem dX3_append_9 : decode cX3_append 9 = .ok (.aload_n 0, 1) := by decide +kernel
theorem dX3_append_10 : decode cX3_append 10 = .ok (.getfield 11, 3) := by decide +kernel
theorem dX3_append_13 : decode cX3_append 13 = .ok (.aload_n 0, 1) := by decide +kernel
theorem dX3_append_14 : decode cX3_append 14 = .ok (.getfield 17, 3) := by decide +kernel
theorem dX3_append_17 : decode cX3_append 17 = .ok (.iload_n 3, 1) := by decide +kernel
theorem dX3_append_18 : decode cX3_append 18 = .ok (.iadd, 1) := by decide +kernel
theorem dX3_append_19 : decode cX3_append 19 = .ok (.iconst 1, 1) := by decide +kernel
theorem dX3_append_20 : decode cX3_append 20 = .ok (.isub, 1) := by decide +kernel
theorem dX3_append_21 : decode cX3_append 21 = .ok (.iload 4, 2) := by decide +kernel
theorem dX3_append_23 : decode cX3_append 23 = .ok (.isub, 1) := by decide +kernel
theorem dX3_append_24 : decode cX3_append 24 = .ok (.lload_n 1, 1) := by decide +kernel
theorem dX3_append_25 : decode cX3_append 25 = .ok (.bipush 8, 2) := by decide +kernel
theorem dX3_append_27 : decode cX3_append 27 = .ok (.iload 4, 2) := by decide +kernel
theorem dX3_append_29 : decode cX3_append 29 = .ok (.imul, 1) := by decide +kernel
theorem dX3_append_30 : decode cX3_append 30 = .ok (.lushr, 1) := by decide +kernel
theorem dX3_append_31 : decode cX3_append 31 = .ok (.ldc2_w 15, 3) := by decide +kernel
theorem dX3_append_34 : decode cX3_append 34 = .ok (.land, 1) := by decide +kernel
theorem dX3_append_35 : decode cX3_append 35 = .ok (.l2i, 1) := by decide +kernel
theorem dX3_append_36 : decode cX3_append 36 = .ok (.i2c, 1) := by decide +kernel
theorem dX3_append_37 : decode cX3_append 37 = .ok (.castore, 1) := by decide +kernel
theorem dX3_append_38 : decode cX3_append 38 = .ok (.iinc 4 1, 3) := by decide +kernel
theorem dX3_append_41 : decode cX3_append 41 = .ok (.goto (-38), 3) := by decide +kernel
theorem dX3_append_44 : decode cX3_append 44 = .ok (.aload_n 0, 1) := by decide +kernel
theorem dX3_append_45 : decode cX3_append 45 = .ok (.dup, 1) := by decide +kernel
theorem dX3_append_46 : decode cX3_append 46 = .ok (.getfield 17, 3) := by decide +kernel
theorem dX3_append_49 : decode cX3_append 49 = .ok (.iload_n 3, 1) := by decide +kernel
theorem dX3_append_50 : decode cX3_append 50 = .ok (.iadd, 1) := by decide +kernel
theorem dX3_append_51 : decode cX3_append 51 = .ok (.putfield 17, 3) := by decide +kernel
theorem dX3_append_54 : decode cX3_append 54 = .ok (.return_, 1) := by decide +kernel
theorem dX3_empty_0 : decode cX3_empty 0 = .ok (.aload_n 0, 1) := by decide +kernel
theorem dX3_empty_1 : decode cX3_empty 1 = .ok (.iconst 0, 1) := by decide +kernel
theorem dX3_empty_2 : decode cX3_empty 2 = .ok (.putfield 17, 3) := by decide +kernel
theorem dX3_empty_5 : decode cX3_empty 5 = .ok (.return_, 1) := by decide +kernel
set_option maxRecDepth 20000 in
theorem ggX3_firstFault_X3_dueBehind : GoodIn wsX3_firstFault wsX3_dueBehind := goodIn_r _ [6, 7, 8, 5, 9, 10, 11, 12] (by decide +kernel) (by decide +kernel)
set_option maxRecDepth 20000 in
theorem gX3_firstFault_X3_dueBehind : GoodIn wsX3_firstFault (va_wsS RX3 21 yX3_dueBehind wsX3_dueBehind) := goodIn_app (goodIn_of _ (by decide +kernel)) ggX3_firstFault_X3_dueBehind
theorem dX3_firstFault_0 : decode cX3_firstFault 0 = .ok (.iconst 0, 1) := by decide +kernel
theorem dX3_firstFault_1 : decode cX3_firstFault 1 = .ok (.istore_n 1, 1) := by decide +kernel
theorem dX3_firstFault_2 : decode cX3_firstFault 2 = .ok (.iconst 0, 1) := by decide +kernel
theorem dX3_firstFault_3 : decode cX3_firstFault 3 = .ok (.istore_n 2, 1) := by decide +kernel
theorem dX3_firstFault_4 : decode cX3_firstFault 4 = .ok (.iload_n 2, 1) := by decide +kernel
theorem dX3_firstFault_5 : decode cX3_firstFault 5 = .ok (.aload_n 0, 1) := by decide +kernel
theorem dX3_firstFault_6 : decode cX3_firstFault 6 = .ok (.getfield 17, 3) := by decide +kernel
theorem dX3_firstFault_9 : decode cX3_firstFault 9 = .ok (.if_icmp .ge 27, 3) := by decide +kernel
theorem dX3_firstFault_12 : decode cX3_firstFault 12 = .ok (.iload_n 1, 1) := by decide +kernel
theorem dX3_firstFault_13 : decode cX3_firstFault 13 = .ok (.aload_n 0, 1) := by decide +kernel
theorem dX3_firstFault_14 : decode cX3_firstFault 14 = .ok (.getfield 11, 3) := by decide +kernel
theorem dX3_firstFault_17 : decode cX3_firstFault 17 = .ok (.iload_n 2, 1) := by decide +kernel
theorem dX3_firstFault_18 : decode cX3_firstFault 18 = .ok (.caload, 1) := by decide +kernel
theorem dX3_firstFault_19 : decode cX3_firstFault 19 = .ok (.invokestatic 21, 3) := by decide +kernel
theorem dX3_firstFault_22 : decode cX3_firstFault 22 = .ok (.istore_n 1, 1) := by decide +kernel
theorem dX3_firstFault_23 : decode cX3_firstFault 23 = .ok (.iload_n 1, 1) := by decide +kernel
theorem dX3_firstFault_24 : decode cX3_firstFault 24 = .ok (.iconst (-1), 1) := by decide +kernel
theorem dX3_firstFault_25 : decode cX3_firstFault 25 = .ok (.if_icmp .ne 5, 3) := by decide +kernel
theorem dX3_firstFault_28 : decode cX3_firstFault 28 = .ok (.iload_n 2, 1) := by decide +kernel
theorem dX3_firstFault_29 : decode cX3_firstFault 29 = .ok (.ireturn, 1) := by decide +kernel
theorem dX3_firstFault_30 : decode cX3_firstFault 30 = .ok (.iinc 2 1, 3) := by decide +kernel
theorem dX3_firstFault_33 : decode cX3_firstFault 33 = .ok (.goto (-29), 3) := by decide +kernel
theorem dX3_firstFault_36 : decode cX3_firstFault 36 = .ok (.iload_n 1, 1) := by decide +kernel
theorem dX3_firstFault_37 : decode cX3_firstFault 37 = .ok (.iconst 3, 1) := by decide +kernel
theorem dX3_firstFault_38 : decode cX3_firstFault 38 = .ok (.if_icmp .lt 8, 3) := by decide +kernel
theorem dX3_firstFault_41 : decode cX3_firstFault 41 = .ok (.bipush (-6), 2) := by decide +kernel
theorem dX3_firstFault_43 : decode cX3_firstFault 43 = .ok (.goto 7, 3) := by decide +kernel
theorem dX3_firstFault_46 : decode cX3_firstFault 46 = .ok (.aload_n 0, 1) := by decide +kernel
theorem dX3_firstFault_47 : decode cX3_firstFault 47 = .ok (.getfield 17, 3) := by decide +kernel
theorem dX3_firstFault_50 : decode cX3_firstFault 50 = .ok (.ireturn, 1) := by decide +kernel
set_option maxRecDepth 20000 in
theorem ggX3_dueBehind_X3_dueBehindPlaces : GoodIn wsX3_dueBehind wsX3_dueBehindPlaces := goodIn_r _ [4, 5, 6, 7] (by decide +kernel) (by decide +kernel)
set_option maxRecDepth 20000 in
theorem gX3_dueBehind_X3_dueBehindPlaces : GoodIn wsX3_dueBehind (va_wsS RX3 25 yX3_dueBehindPlaces wsX3_dueBehindPlaces) := goodIn_app (goodIn_of _ (by decide +kernel)) ggX3_dueBehind_X3_dueBehindPlaces
theorem dX3_dueBehind_0 : decode cX3_dueBehind 0 = .ok (.iload_n 0, 1) := by decide +kernel
theorem dX3_dueBehind_1 : decode cX3_dueBehind 1 = .ok (.tableswitch 91 0 2 #[27, 53, 79], 27) := by decide +kernel
theorem dX3_dueBehind_28 : decode cX3_dueBehind 28 = .ok (.iload_n 1, 1) := by decide +kernel
theorem dX3_dueBehind_29 : decode cX3_dueBehind 29 = .ok (.bipush 49, 2) := by decide +kernel
theorem dX3_dueBehind_31 : decode cX3_dueBehind 31 = .ok (.if_icmp .ne 5, 3) := by decide +kernel
theorem dX3_dueBehind_34 : decode cX3_dueBehind 34 = .ok (.iconst 1, 1) := by decide +kernel
theorem dX3_dueBehind_35 : decode cX3_dueBehind 35 = .ok (.ireturn, 1) := by decide +kernel
theorem dX3_dueBehind_36 : decode cX3_dueBehind 36 = .ok (.iload_n 1, 1) := by decide +kernel
theorem dX3_dueBehind_37 : decode cX3_dueBehind 37 = .ok (.bipush 48, 2) := by decide +kernel
theorem dX3_dueBehind_39 : decode cX3_dueBehind 39 = .ok (.if_icmp .lt 13, 3) := by decide +kernel
theorem dX3_dueBehind_42 : decode cX3_dueBehind 42 = .ok (.iload_n 1, 1) := by decide +kernel
theorem dX3_dueBehind_43 : decode cX3_dueBehind 43 = .ok (.bipush 57, 2) := by decide +kernel
theorem dX3_dueBehind_45 : decode cX3_dueBehind 45 = .ok (.if_icmp .gt 7, 3) := by decide +kernel
theorem dX3_dueBehind_48 : decode cX3_dueBehind 48 = .ok (.iconst 2, 1) := by decide +kernel
theorem dX3_dueBehind_49 : decode cX3_dueBehind 49 = .ok (.goto 4, 3) := by decide +kernel
theorem dX3_dueBehind_52 : decode cX3_dueBehind 52 = .ok (.iconst (-1), 1) := by decide +kernel
theorem dX3_dueBehind_53 : decode cX3_dueBehind 53 = .ok (.ireturn, 1) := by decide +kernel
theorem dX3_dueBehind_54 : decode cX3_dueBehind 54 = .ok (.iload_n 1, 1) := by decide +kernel
theorem dX3_dueBehind_55 : decode cX3_dueBehind 55 = .ok (.bipush 48, 2) := by decide +kernel
theorem dX3_dueBehind_57 : decode cX3_dueBehind 57 = .ok (.if_icmp .lt 11, 3) := by decide +kernel
theorem dX3_dueBehind_60 : decode cX3_dueBehind 60 = .ok (.iload_n 1, 1) := by decide +kernel
theorem dX3_dueBehind_61 : decode cX3_dueBehind 61 = .ok (.bipush 53, 2) := by decide +kernel
theorem dX3_dueBehind_63 : decode cX3_dueBehind 63 = .ok (.if_icmp .gt 5, 3) := by decide +kernel
theorem dX3_dueBehind_66 : decode cX3_dueBehind 66 = .ok (.iconst 2, 1) := by decide +kernel
theorem dX3_dueBehind_67 : decode cX3_dueBehind 67 = .ok (.ireturn, 1) := by decide +kernel
theorem dX3_dueBehind_68 : decode cX3_dueBehind 68 = .ok (.iload_n 1, 1) := by decide +kernel
theorem dX3_dueBehind_69 : decode cX3_dueBehind 69 = .ok (.bipush 58, 2) := by decide +kernel
theorem dX3_dueBehind_71 : decode cX3_dueBehind 71 = .ok (.if_icmp .ne 7, 3) := by decide +kernel
theorem dX3_dueBehind_74 : decode cX3_dueBehind 74 = .ok (.iconst 3, 1) := by decide +kernel
theorem dX3_dueBehind_75 : decode cX3_dueBehind 75 = .ok (.goto 4, 3) := by decide +kernel
theorem dX3_dueBehind_78 : decode cX3_dueBehind 78 = .ok (.iconst (-1), 1) := by decide +kernel
theorem dX3_dueBehind_79 : decode cX3_dueBehind 79 = .ok (.ireturn, 1) := by decide +kernel
theorem dX3_dueBehind_80 : decode cX3_dueBehind 80 = .ok (.iload_n 1, 1) := by decide +kernel
theorem dX3_dueBehind_81 : decode cX3_dueBehind 81 = .ok (.bipush 58, 2) := by decide +kernel
theorem dX3_dueBehind_83 : decode cX3_dueBehind 83 = .ok (.if_icmp .ne 7, 3) := by decide +kernel
theorem dX3_dueBehind_86 : decode cX3_dueBehind 86 = .ok (.iconst 3, 1) := by decide +kernel
theorem dX3_dueBehind_87 : decode cX3_dueBehind 87 = .ok (.goto 4, 3) := by decide +kernel
theorem dX3_dueBehind_90 : decode cX3_dueBehind 90 = .ok (.iconst (-1), 1) := by decide +kernel
theorem dX3_dueBehind_91 : decode cX3_dueBehind 91 = .ok (.ireturn, 1) := by decide +kernel
theorem dX3_dueBehind_92 : decode cX3_dueBehind 92 = .ok (.iload_n 0, 1) := by decide +kernel
theorem dX3_dueBehind_93 : decode cX3_dueBehind 93 = .ok (.iconst 3, 1) := by decide +kernel
theorem dX3_dueBehind_94 : decode cX3_dueBehind 94 = .ok (.isub, 1) := by decide +kernel
theorem dX3_dueBehind_95 : decode cX3_dueBehind 95 = .ok (.iload_n 1, 1) := by decide +kernel
theorem dX3_dueBehind_96 : decode cX3_dueBehind 96 = .ok (.invokestatic 25, 3) := by decide +kernel
theorem dX3_dueBehind_99 : decode cX3_dueBehind 99 = .ok (.ireturn, 1) := by decide +kernel
set_option maxRecDepth 20000 in
theorem ggX3_dueBehindPlaces_X5_isPlace : GoodIn wsX3_dueBehindPlaces wsX5_isPlace := goodIn_r _ [3] (by decide +kernel) (by decide +kernel)
set_option maxRecDepth 20000 in
theorem gX3_dueBehindPlaces_X5_isPlace_n28 : GoodIn wsX3_dueBehindPlaces (wsX5_isPlace) := ggX3_dueBehindPlaces_X5_isPlace
theorem dX3_dueBehindPlaces_0 : decode cX3_dueBehindPlaces 0 = .ok (.iload_n 1, 1) := by decide +kernel
theorem dX3_dueBehindPlaces_1 : decode cX3_dueBehindPlaces 1 = .ok (.bipush 59, 2) := by decide +kernel
theorem dX3_dueBehindPlaces_3 : decode cX3_dueBehindPlaces 3 = .ok (.if_icmp .ne 5, 3) := by decide +kernel
theorem dX3_dueBehindPlaces_6 : decode cX3_dueBehindPlaces 6 = .ok (.iconst 0, 1) := by decide +kernel
theorem dX3_dueBehindPlaces_7 : decode cX3_dueBehindPlaces 7 = .ok (.ireturn, 1) := by decide +kernel
theorem dX3_dueBehindPlaces_8 : decode cX3_dueBehindPlaces 8 = .ok (.iload_n 1, 1) := by decide +kernel
theorem dX3_dueBehindPlaces_9 : decode cX3_dueBehindPlaces 9 = .ok (.bipush 48, 2) := by decide +kernel
theorem dX3_dueBehindPlaces_11 : decode cX3_dueBehindPlaces 11 = .ok (.isub, 1) := by decide +kernel
theorem dX3_dueBehindPlaces_12 : decode cX3_dueBehindPlaces 12 = .ok (.istore_n 2, 1) := by decide +kernel
theorem dX3_dueBehindPlaces_13 : decode cX3_dueBehindPlaces 13 = .ok (.iload_n 2, 1) := by decide +kernel
theorem dX3_dueBehindPlaces_14 : decode cX3_dueBehindPlaces 14 = .ok (.invokestatic 28, 3) := by decide +kernel
theorem dX3_dueBehindPlaces_17 : decode cX3_dueBehindPlaces 17 = .ok (.ifCond .eq 16, 3) := by decide +kernel
theorem dX3_dueBehindPlaces_20 : decode cX3_dueBehindPlaces 20 = .ok (.iload_n 2, 1) := by decide +kernel
theorem dX3_dueBehindPlaces_21 : decode cX3_dueBehindPlaces 21 = .ok (.iload_n 0, 1) := by decide +kernel
theorem dX3_dueBehindPlaces_22 : decode cX3_dueBehindPlaces 22 = .ok (.if_icmp .lt 11, 3) := by decide +kernel
theorem dX3_dueBehindPlaces_25 : decode cX3_dueBehindPlaces 25 = .ok (.iconst 3, 1) := by decide +kernel
theorem dX3_dueBehindPlaces_26 : decode cX3_dueBehindPlaces 26 = .ok (.iload_n 2, 1) := by decide +kernel
theorem dX3_dueBehindPlaces_27 : decode cX3_dueBehindPlaces 27 = .ok (.iadd, 1) := by decide +kernel
theorem dX3_dueBehindPlaces_28 : decode cX3_dueBehindPlaces 28 = .ok (.iconst 1, 1) := by decide +kernel
theorem dX3_dueBehindPlaces_29 : decode cX3_dueBehindPlaces 29 = .ok (.iadd, 1) := by decide +kernel
theorem dX3_dueBehindPlaces_30 : decode cX3_dueBehindPlaces 30 = .ok (.goto 4, 3) := by decide +kernel
theorem dX3_dueBehindPlaces_33 : decode cX3_dueBehindPlaces 33 = .ok (.iconst (-1), 1) := by decide +kernel
theorem dX3_dueBehindPlaces_34 : decode cX3_dueBehindPlaces 34 = .ok (.ireturn, 1) := by decide +kernel
set_option maxRecDepth 20000 in
theorem ggX3_changeRows_X5_isRow : GoodIn wsX3_changeRows wsX5_isRow := goodIn_r _ [5] (by decide +kernel) (by decide +kernel)
set_option maxRecDepth 20000 in
theorem gX3_changeRows_X5_isRow_n32 : GoodIn wsX3_changeRows (wsX5_isRow) := ggX3_changeRows_X5_isRow
set_option maxRecDepth 20000 in
theorem ggX3_changeRows_X1_giveRow : GoodIn wsX3_changeRows wsX1_giveRow := goodIn_r _ [10, 11, 12, 13, 14, 15, 9, 16, 19, 20, 21, 22] (by decide +kernel) (by decide +kernel)
set_option maxRecDepth 20000 in
theorem gX3_changeRows_X1_giveRow : GoodIn wsX3_changeRows (wsV RX3 35 RX1 yX1_giveRow wsX1_giveRow) := goodIn_app (goodIn_of _ (by decide +kernel)) ggX3_changeRows_X1_giveRow
theorem dX3_changeRows_0 : decode cX3_changeRows 0 = .ok (.iconst 0, 1) := by decide +kernel
theorem dX3_changeRows_1 : decode cX3_changeRows 1 = .ok (.istore_n 2, 1) := by decide +kernel
theorem dX3_changeRows_2 : decode cX3_changeRows 2 = .ok (.iconst 0, 1) := by decide +kernel
theorem dX3_changeRows_3 : decode cX3_changeRows 3 = .ok (.istore_n 3, 1) := by decide +kernel
theorem dX3_changeRows_4 : decode cX3_changeRows 4 = .ok (.iconst 0, 1) := by decide +kernel
theorem dX3_changeRows_5 : decode cX3_changeRows 5 = .ok (.istore 4, 2) := by decide +kernel
theorem dX3_changeRows_7 : decode cX3_changeRows 7 = .ok (.iconst 0, 1) := by decide +kernel
theorem dX3_changeRows_8 : decode cX3_changeRows 8 = .ok (.istore 5, 2) := by decide +kernel
theorem dX3_changeRows_10 : decode cX3_changeRows 10 = .ok (.iload 5, 2) := by decide +kernel
theorem dX3_changeRows_12 : decode cX3_changeRows 12 = .ok (.aload_n 0, 1) := by decide +kernel
theorem dX3_changeRows_13 : decode cX3_changeRows 13 = .ok (.getfield 17, 3) := by decide +kernel
theorem dX3_changeRows_16 : decode cX3_changeRows 16 = .ok (.if_icmp .gt 110, 3) := by decide +kernel
theorem dX3_changeRows_19 : decode cX3_changeRows 19 = .ok (.iload 5, 2) := by decide +kernel
theorem dX3_changeRows_21 : decode cX3_changeRows 21 = .ok (.aload_n 0, 1) := by decide +kernel
theorem dX3_changeRows_22 : decode cX3_changeRows 22 = .ok (.getfield 17, 3) := by decide +kernel
theorem dX3_changeRows_25 : decode cX3_changeRows 25 = .ok (.if_icmp .eq 15, 3) := by decide +kernel
theorem dX3_changeRows_28 : decode cX3_changeRows 28 = .ok (.aload_n 0, 1) := by decide +kernel
theorem dX3_changeRows_29 : decode cX3_changeRows 29 = .ok (.getfield 11, 3) := by decide +kernel
theorem dX3_changeRows_32 : decode cX3_changeRows 32 = .ok (.iload 5, 2) := by decide +kernel
theorem dX3_changeRows_34 : decode cX3_changeRows 34 = .ok (.caload, 1) := by decide +kernel
theorem dX3_changeRows_35 : decode cX3_changeRows 35 = .ok (.bipush 59, 2) := by decide +kernel
theorem dX3_changeRows_37 : decode cX3_changeRows 37 = .ok (.if_icmp .ne 26, 3) := by decide +kernel
theorem dX3_changeRows_40 : decode cX3_changeRows 40 = .ok (.iload_n 2, 1) := by decide +kernel
theorem dX3_changeRows_41 : decode cX3_changeRows 41 = .ok (.invokestatic 32, 3) := by decide +kernel
theorem dX3_changeRows_44 : decode cX3_changeRows 44 = .ok (.ifCond .eq 9, 3) := by decide +kernel
theorem dX3_changeRows_47 : decode cX3_changeRows 47 = .ok (.aload_n 1, 1) := by decide +kernel
theorem dX3_changeRows_48 : decode cX3_changeRows 48 = .ok (.iload_n 2, 1) := by decide +kernel
theorem dX3_changeRows_49 : decode cX3_changeRows 49 = .ok (.iload_n 3, 1) := by decide +kernel
theorem dX3_changeRows_50 : decode cX3_changeRows 50 = .ok (.invokevirtual 35, 3) := by decide +kernel
theorem dX3_changeRows_53 : decode cX3_changeRows 53 = .ok (.iconst 0, 1) := by decide +kernel
theorem dX3_changeRows_54 : decode cX3_changeRows 54 = .ok (.istore_n 2, 1) := by decide +kernel
theorem dX3_changeRows_55 : decode cX3_changeRows 55 = .ok (.iconst 0, 1) := by decide +kernel
theorem dX3_changeRows_56 : decode cX3_changeRows 56 = .ok (.istore_n 3, 1) := by decide +kernel
theorem dX3_changeRows_57 : decode cX3_changeRows 57 = .ok (.iconst 0, 1) := by decide +kernel
theorem dX3_changeRows_58 : decode cX3_changeRows 58 = .ok (.istore 4, 2) := by decide +kernel
theorem dX3_changeRows_60 : decode cX3_changeRows 60 = .ok (.goto 60, 3) := by decide +kernel
theorem dX3_changeRows_63 : decode cX3_changeRows 63 = .ok (.aload_n 0, 1) := by decide +kernel
theorem dX3_changeRows_64 : decode cX3_changeRows 64 = .ok (.getfield 11, 3) := by decide +kernel
theorem dX3_changeRows_67 : decode cX3_changeRows 67 = .ok (.iload 5, 2) := by decide +kernel
theorem dX3_changeRows_69 : decode cX3_changeRows 69 = .ok (.caload, 1) := by decide +kernel
theorem dX3_changeRows_70 : decode cX3_changeRows 70 = .ok (.bipush 58, 2) := by decide +kernel
theorem dX3_changeRows_72 : decode cX3_changeRows 72 = .ok (.if_icmp .ne 9, 3) := by decide +kernel
theorem dX3_changeRows_75 : decode cX3_changeRows 75 = .ok (.iconst 1, 1) := by decide +kernel
theorem dX3_changeRows_76 : decode cX3_changeRows 76 = .ok (.istore 4, 2) := by decide +kernel
theorem dX3_changeRows_78 : decode cX3_changeRows 78 = .ok (.goto 42, 3) := by decide +kernel
theorem dX3_changeRows_81 : decode cX3_changeRows 81 = .ok (.iload 4, 2) := by decide +kernel
theorem dX3_changeRows_83 : decode cX3_changeRows 83 = .ok (.ifCond .eq 21, 3) := by decide +kernel
theorem dX3_changeRows_86 : decode cX3_changeRows 86 = .ok (.iload_n 3, 1) := by decide +kernel
theorem dX3_changeRows_87 : decode cX3_changeRows 87 = .ok (.iconst 1, 1) := by decide +kernel
theorem dX3_changeRows_88 : decode cX3_changeRows 88 = .ok (.aload_n 0, 1) := by decide +kernel
theorem dX3_changeRows_89 : decode cX3_changeRows 89 = .ok (.getfield 11, 3) := by decide +kernel
theorem dX3_changeRows_92 : decode cX3_changeRows 92 = .ok (.iload 5, 2) := by decide +kernel
theorem dX3_changeRows_94 : decode cX3_changeRows 94 = .ok (.caload, 1) := by decide +kernel
theorem dX3_changeRows_95 : decode cX3_changeRows 95 = .ok (.bipush 48, 2) := by decide +kernel
theorem dX3_changeRows_97 : decode cX3_changeRows 97 = .ok (.isub, 1) := by decide +kernel
theorem dX3_changeRows_98 : decode cX3_changeRows 98 = .ok (.ishl, 1) := by decide +kernel
theorem dX3_changeRows_99 : decode cX3_changeRows 99 = .ok (.ior, 1) := by decide +kernel
theorem dX3_changeRows_100 : decode cX3_changeRows 100 = .ok (.istore_n 3, 1) := by decide +kernel
theorem dX3_changeRows_101 : decode cX3_changeRows 101 = .ok (.goto 19, 3) := by decide +kernel
theorem dX3_changeRows_104 : decode cX3_changeRows 104 = .ok (.iload_n 2, 1) := by decide +kernel
theorem dX3_changeRows_105 : decode cX3_changeRows 105 = .ok (.bipush 10, 2) := by decide +kernel
theorem dX3_changeRows_107 : decode cX3_changeRows 107 = .ok (.imul, 1) := by decide +kernel
theorem dX3_changeRows_108 : decode cX3_changeRows 108 = .ok (.aload_n 0, 1) := by decide +kernel
theorem dX3_changeRows_109 : decode cX3_changeRows 109 = .ok (.getfield 11, 3) := by decide +kernel
theorem dX3_changeRows_112 : decode cX3_changeRows 112 = .ok (.iload 5, 2) := by decide +kernel
theorem dX3_changeRows_114 : decode cX3_changeRows 114 = .ok (.caload, 1) := by decide +kernel
theorem dX3_changeRows_115 : decode cX3_changeRows 115 = .ok (.iadd, 1) := by decide +kernel
theorem dX3_changeRows_116 : decode cX3_changeRows 116 = .ok (.bipush 48, 2) := by decide +kernel
theorem dX3_changeRows_118 : decode cX3_changeRows 118 = .ok (.isub, 1) := by decide +kernel
theorem dX3_changeRows_119 : decode cX3_changeRows 119 = .ok (.istore_n 2, 1) := by decide +kernel
theorem dX3_changeRows_120 : decode cX3_changeRows 120 = .ok (.iinc 5 1, 3) := by decide +kernel
theorem dX3_changeRows_123 : decode cX3_changeRows 123 = .ok (.goto (-113), 3) := by decide +kernel
theorem dX3_changeRows_126 : decode cX3_changeRows 126 = .ok (.return_, 1) := by decide +kernel
theorem dX4_init_0 : decode cX4_init 0 = .ok (.aload_n 0, 1) := by decide +kernel
theorem dX4_init_1 : decode cX4_init 1 = .ok (.invokespecial 3, 3) := by decide +kernel
theorem dX4_init_4 : decode cX4_init 4 = .ok (.aload_n 0, 1) := by decide +kernel
theorem dX4_init_5 : decode cX4_init 5 = .ok (.bipush 6, 2) := by decide +kernel
theorem dX4_init_7 : decode cX4_init 7 = .ok (.newarray .int, 2) := by decide +kernel
theorem dX4_init_9 : decode cX4_init 9 = .ok (.dup, 1) := by decide +kernel
theorem dX4_init_10 : decode cX4_init 10 = .ok (.iconst 0, 1) := by decide +kernel
theorem dX4_init_11 : decode cX4_init 11 = .ok (.bipush 50, 2) := by decide +kernel
theorem dX4_init_13 : decode cX4_init 13 = .ok (.iastore, 1) := by decide +kernel
theorem dX4_init_14 : decode cX4_init 14 = .ok (.dup, 1) := by decide +kernel
theorem dX4_init_15 : decode cX4_init 15 = .ok (.iconst 1, 1) := by decide +kernel
theorem dX4_init_16 : decode cX4_init 16 = .ok (.bipush 50, 2) := by decide +kernel
theorem dX4_init_18 : decode cX4_init 18 = .ok (.iastore, 1) := by decide +kernel
theorem dX4_init_19 : decode cX4_init 19 = .ok (.dup, 1) := by decide +kernel
theorem dX4_init_20 : decode cX4_init 20 = .ok (.iconst 2, 1) := by decide +kernel
theorem dX4_init_21 : decode cX4_init 21 = .ok (.bipush 50, 2) := by decide +kernel
theorem dX4_init_23 : decode cX4_init 23 = .ok (.iastore, 1) := by decide +kernel
theorem dX4_init_24 : decode cX4_init 24 = .ok (.dup, 1) := by decide +kernel
theorem dX4_init_25 : decode cX4_init 25 = .ok (.iconst 3, 1) := by decide +kernel
theorem dX4_init_26 : decode cX4_init 26 = .ok (.bipush 50, 2) := by decide +kernel
theorem dX4_init_28 : decode cX4_init 28 = .ok (.iastore, 1) := by decide +kernel
theorem dX4_init_29 : decode cX4_init 29 = .ok (.dup, 1) := by decide +kernel
theorem dX4_init_30 : decode cX4_init 30 = .ok (.iconst 4, 1) := by decide +kernel
theorem dX4_init_31 : decode cX4_init 31 = .ok (.bipush 50, 2) := by decide +kernel
theorem dX4_init_33 : decode cX4_init 33 = .ok (.iastore, 1) := by decide +kernel
theorem dX4_init_34 : decode cX4_init 34 = .ok (.dup, 1) := by decide +kernel
theorem dX4_init_35 : decode cX4_init 35 = .ok (.iconst 5, 1) := by decide +kernel
theorem dX4_init_36 : decode cX4_init 36 = .ok (.bipush 50, 2) := by decide +kernel
theorem dX4_init_38 : decode cX4_init 38 = .ok (.iastore, 1) := by decide +kernel
theorem dX4_init_39 : decode cX4_init 39 = .ok (.putfield 9, 3) := by decide +kernel
theorem dX4_init_42 : decode cX4_init 42 = .ok (.aload_n 0, 1) := by decide +kernel
theorem dX4_init_43 : decode cX4_init 43 = .ok (.bipush 6, 2) := by decide +kernel
theorem dX4_init_45 : decode cX4_init 45 = .ok (.newarray .int, 2) := by decide +kernel
theorem dX4_init_47 : decode cX4_init 47 = .ok (.putfield 15, 3) := by decide +kernel
theorem dX4_init_50 : decode cX4_init 50 = .ok (.aload_n 0, 1) := by decide +kernel
theorem dX4_init_51 : decode cX4_init 51 = .ok (.bipush 6, 2) := by decide +kernel
theorem dX4_init_53 : decode cX4_init 53 = .ok (.newarray .int, 2) := by decide +kernel
theorem dX4_init_55 : decode cX4_init 55 = .ok (.putfield 18, 3) := by decide +kernel
theorem dX4_init_58 : decode cX4_init 58 = .ok (.aload_n 0, 1) := by decide +kernel
theorem dX4_init_59 : decode cX4_init 59 = .ok (.bipush 6, 2) := by decide +kernel
theorem dX4_init_61 : decode cX4_init 61 = .ok (.newarray .int, 2) := by decide +kernel
theorem dX4_init_63 : decode cX4_init 63 = .ok (.putfield 21, 3) := by decide +kernel
theorem dX4_init_66 : decode cX4_init 66 = .ok (.return_, 1) := by decide +kernel
theorem dX4_copyFrom_0 : decode cX4_copyFrom 0 = .ok (.aload_n 1, 1) := by decide +kernel
theorem dX4_copyFrom_1 : decode cX4_copyFrom 1 = .ok (.getfield 9, 3) := by decide +kernel
theorem dX4_copyFrom_4 : decode cX4_copyFrom 4 = .ok (.iconst 0, 1) := by decide +kernel
theorem dX4_copyFrom_5 : decode cX4_copyFrom 5 = .ok (.aload_n 0, 1) := by decide +kernel
theorem dX4_copyFrom_6 : decode cX4_copyFrom 6 = .ok (.getfield 9, 3) := by decide +kernel
theorem dX4_copyFrom_9 : decode cX4_copyFrom 9 = .ok (.iconst 0, 1) := by decide +kernel
theorem dX4_copyFrom_10 : decode cX4_copyFrom 10 = .ok (.bipush 6, 2) := by decide +kernel
theorem dX4_copyFrom_12 : decode cX4_copyFrom 12 = .ok (.invokestatic 24, 3) := by decide +kernel
theorem dX4_copyFrom_15 : decode cX4_copyFrom 15 = .ok (.aload_n 1, 1) := by decide +kernel
theorem dX4_copyFrom_16 : decode cX4_copyFrom 16 = .ok (.getfield 15, 3) := by decide +kernel
theorem dX4_copyFrom_19 : decode cX4_copyFrom 19 = .ok (.iconst 0, 1) := by decide +kernel
theorem dX4_copyFrom_20 : decode cX4_copyFrom 20 = .ok (.aload_n 0, 1) := by decide +kernel
theorem dX4_copyFrom_21 : decode cX4_copyFrom 21 = .ok (.getfield 15, 3) := by decide +kernel
theorem dX4_copyFrom_24 : decode cX4_copyFrom 24 = .ok (.iconst 0, 1) := by decide +kernel
theorem dX4_copyFrom_25 : decode cX4_copyFrom 25 = .ok (.bipush 6, 2) := by decide +kernel
theorem dX4_copyFrom_27 : decode cX4_copyFrom 27 = .ok (.invokestatic 24, 3) := by decide +kernel
theorem dX4_copyFrom_30 : decode cX4_copyFrom 30 = .ok (.aload_n 1, 1) := by decide +kernel
theorem dX4_copyFrom_31 : decode cX4_copyFrom 31 = .ok (.getfield 18, 3) := by decide +kernel
theorem dX4_copyFrom_34 : decode cX4_copyFrom 34 = .ok (.iconst 0, 1) := by decide +kernel
theorem dX4_copyFrom_35 : decode cX4_copyFrom 35 = .ok (.aload_n 0, 1) := by decide +kernel
theorem dX4_copyFrom_36 : decode cX4_copyFrom 36 = .ok (.getfield 18, 3) := by decide +kernel
theorem dX4_copyFrom_39 : decode cX4_copyFrom 39 = .ok (.iconst 0, 1) := by decide +kernel
theorem dX4_copyFrom_40 : decode cX4_copyFrom 40 = .ok (.bipush 6, 2) := by decide +kernel
theorem dX4_copyFrom_42 : decode cX4_copyFrom 42 = .ok (.invokestatic 24, 3) := by decide +kernel
theorem dX4_copyFrom_45 : decode cX4_copyFrom 45 = .ok (.aload_n 1, 1) := by decide +kernel
theorem dX4_copyFrom_46 : decode cX4_copyFrom 46 = .ok (.getfield 21, 3) := by decide +kernel
theorem dX4_copyFrom_49 : decode cX4_copyFrom 49 = .ok (.iconst 0, 1) := by decide +kernel
theorem dX4_copyFrom_50 : decode cX4_copyFrom 50 = .ok (.aload_n 0, 1) := by decide +kernel
theorem dX4_copyFrom_51 : decode cX4_copyFrom 51 = .ok (.getfield 21, 3) := by decide +kernel
theorem dX4_copyFrom_54 : decode cX4_copyFrom 54 = .ok (.iconst 0, 1) := by decide +kernel
theorem dX4_copyFrom_55 : decode cX4_copyFrom 55 = .ok (.bipush 6, 2) := by decide +kernel
theorem dX4_copyFrom_57 : decode cX4_copyFrom 57 = .ok (.invokestatic 24, 3) := by decide +kernel
theorem dX4_copyFrom_60 : decode cX4_copyFrom 60 = .ok (.return_, 1) := by decide +kernel
theorem dX4_leavesMark_0 : decode cX4_leavesMark 0 = .ok (.aload_n 0, 1) := by decide +kernel
theorem dX4_leavesMark_1 : decode cX4_leavesMark 1 = .ok (.getfield 9, 3) := by decide +kernel
theorem dX4_leavesMark_4 : decode cX4_leavesMark 4 = .ok (.iload_n 1, 1) := by decide +kernel
theorem dX4_leavesMark_5 : decode cX4_leavesMark 5 = .ok (.iaload, 1) := by decide +kernel
theorem dX4_leavesMark_6 : decode cX4_leavesMark 6 = .ok (.iload_n 2, 1) := by decide +kernel
theorem dX4_leavesMark_7 : decode cX4_leavesMark 7 = .ok (.if_icmp .ge 15, 3) := by decide +kernel
theorem dX4_leavesMark_10 : decode cX4_leavesMark 10 = .ok (.aload_n 0, 1) := by decide +kernel
theorem dX4_leavesMark_11 : decode cX4_leavesMark 11 = .ok (.getfield 18, 3) := by decide +kernel
theorem dX4_leavesMark_14 : decode cX4_leavesMark 14 = .ok (.iload_n 1, 1) := by decide +kernel
theorem dX4_leavesMark_15 : decode cX4_leavesMark 15 = .ok (.dup2, 1) := by decide +kernel
theorem dX4_leavesMark_16 : decode cX4_leavesMark 16 = .ok (.iaload, 1) := by decide +kernel
theorem dX4_leavesMark_17 : decode cX4_leavesMark 17 = .ok (.iconst 1, 1) := by decide +kernel
theorem dX4_leavesMark_18 : decode cX4_leavesMark 18 = .ok (.iadd, 1) := by decide +kernel
theorem dX4_leavesMark_19 : decode cX4_leavesMark 19 = .ok (.iastore, 1) := by decide +kernel
theorem dX4_leavesMark_20 : decode cX4_leavesMark 20 = .ok (.iconst 0, 1) := by decide +kernel
theorem dX4_leavesMark_21 : decode cX4_leavesMark 21 = .ok (.ireturn, 1) := by decide +kernel
theorem dX4_leavesMark_22 : decode cX4_leavesMark 22 = .ok (.aload_n 0, 1) := by decide +kernel
theorem dX4_leavesMark_23 : decode cX4_leavesMark 23 = .ok (.getfield 9, 3) := by decide +kernel
theorem dX4_leavesMark_26 : decode cX4_leavesMark 26 = .ok (.iload_n 1, 1) := by decide +kernel
theorem dX4_leavesMark_27 : decode cX4_leavesMark 27 = .ok (.dup2, 1) := by decide +kernel
theorem dX4_leavesMark_28 : decode cX4_leavesMark 28 = .ok (.iaload, 1) := by decide +kernel
theorem dX4_leavesMark_29 : decode cX4_leavesMark 29 = .ok (.iload_n 2, 1) := by decide +kernel
theorem dX4_leavesMark_30 : decode cX4_leavesMark 30 = .ok (.isub, 1) := by decide +kernel
theorem dX4_leavesMark_31 : decode cX4_leavesMark 31 = .ok (.iastore, 1) := by decide +kernel
theorem dX4_leavesMark_32 : decode cX4_leavesMark 32 = .ok (.aload_n 0, 1) := by decide +kernel
theorem dX4_leavesMark_33 : decode cX4_leavesMark 33 = .ok (.getfield 15, 3) := by decide +kernel
theorem dX4_leavesMark_36 : decode cX4_leavesMark 36 = .ok (.iload_n 1, 1) := by decide +kernel
theorem dX4_leavesMark_37 : decode cX4_leavesMark 37 = .ok (.dup2, 1) := by decide +kernel
theorem dX4_leavesMark_38 : decode cX4_leavesMark 38 = .ok (.iaload, 1) := by decide +kernel
theorem dX4_leavesMark_39 : decode cX4_leavesMark 39 = .ok (.iconst 1, 1) := by decide +kernel
theorem dX4_leavesMark_40 : decode cX4_leavesMark 40 = .ok (.iadd, 1) := by decide +kernel
theorem dX4_leavesMark_41 : decode cX4_leavesMark 41 = .ok (.iastore, 1) := by decide +kernel
theorem dX4_leavesMark_42 : decode cX4_leavesMark 42 = .ok (.iconst 1, 1) := by decide +kernel
theorem dX4_leavesMark_43 : decode cX4_leavesMark 43 = .ok (.ireturn, 1) := by decide +kernel
theorem dX4_allMarks_0 : decode cX4_allMarks 0 = .ok (.iconst 0, 1) := by decide +kernel
theorem dX4_allMarks_1 : decode cX4_allMarks 1 = .ok (.istore_n 1, 1) := by decide +kernel
theorem dX4_allMarks_2 : decode cX4_allMarks 2 = .ok (.iconst 0, 1) := by decide +kernel
theorem dX4_allMarks_3 : decode cX4_allMarks 3 = .ok (.istore_n 2, 1) := by decide +kernel
theorem dX4_allMarks_4 : decode cX4_allMarks 4 = .ok (.iload_n 2, 1) := by decide +kernel
theorem dX4_allMarks_5 : decode cX4_allMarks 5 = .ok (.bipush 6, 2) := by decide +kernel
theorem dX4_allMarks_7 : decode cX4_allMarks 7 = .ok (.if_icmp .ge 18, 3) := by decide +kernel
theorem dX4_allMarks_10 : decode cX4_allMarks 10 = .ok (.iload_n 1, 1) := by decide +kernel
theorem dX4_allMarks_11 : decode cX4_allMarks 11 = .ok (.aload_n 0, 1) := by decide +kernel
theorem dX4_allMarks_12 : decode cX4_allMarks 12 = .ok (.getfield 15, 3) := by decide +kernel
theorem dX4_allMarks_15 : decode cX4_allMarks 15 = .ok (.iload_n 2, 1) := by decide +kernel
theorem dX4_allMarks_16 : decode cX4_allMarks 16 = .ok (.iaload, 1) := by decide +kernel
theorem dX4_allMarks_17 : decode cX4_allMarks 17 = .ok (.iadd, 1) := by decide +kernel
theorem dX4_allMarks_18 : decode cX4_allMarks 18 = .ok (.istore_n 1, 1) := by decide +kernel
theorem dX4_allMarks_19 : decode cX4_allMarks 19 = .ok (.iinc 2 1, 3) := by decide +kernel
theorem dX4_allMarks_22 : decode cX4_allMarks 22 = .ok (.goto (-18), 3) := by decide +kernel
theorem dX4_allMarks_25 : decode cX4_allMarks 25 = .ok (.iload_n 1, 1) := by decide +kernel
theorem dX4_allMarks_26 : decode cX4_allMarks 26 = .ok (.ireturn, 1) := by decide +kernel
end
section
set_option maxRecDepth 20000 in
theorem ggX5_init_X0_init : GoodIn wsX5_init wsX0_init := goodIn_r _ [21, 22, 2, 3, 23, 24, 25, 26, 27, 28, 29, 30, 31, 32, 33, 34, 35, 36, 37, 38, 39, 40, 41, 42, 43, 44, 55, 56, 57, 58, 59, 60, 61, 62, 63, 64, 65, 66, 67, 79, 80, 81, 82, 83, 84, 85, 86] (by decide +kernel) (by decide +kernel)
set_option maxRecDepth 20000 in
theorem gX5_init_X0_init_n9 : GoodIn wsX5_init (wsX0_init) := ggX5_init_X0_init
set_option maxRecDepth 20000 in
theorem ggX5_init_X2_init : GoodIn wsX5_init wsX2_init := goodIn_r _ [46, 47, 2, 3, 48, 5, 6, 49, 20, 21, 22, 23, 24, 25, 26, 27, 28, 29, 30, 31, 32, 33, 34, 35, 36, 37, 38, 39, 40, 41, 42, 43, 44, 55, 56, 57, 58, 59, 60, 61, 62, 63, 64, 65, 66, 67, 74, 75, 76, 79, 80, 81, 82, 83, 84, 85, 86] (by decide +kernel) (by decide +kernel)
set_option maxRecDepth 20000 in
theorem gX5_init_X2_init_n21 : GoodIn wsX5_init (wsX2_init) := ggX5_init_X2_init
set_option maxRecDepth 20000 in
theorem ggX5_init_X3_init : GoodIn wsX5_init wsX3_init := goodIn_r _ [51, 52, 2, 3, 53, 54, 77, 78] (by decide +kernel) (by decide +kernel)
set_option maxRecDepth 20000 in
theorem gX5_init_X3_init_n28 : GoodIn wsX5_init (wsX3_init) := ggX5_init_X3_init
theorem dX5_init_0 : decode cX5_init 0 = .ok (.aload_n 0, 1) := by decide +kernel
theorem dX5_init_1 : decode cX5_init 1 = .ok (.invokespecial 1, 3) := by decide +kernel
theorem dX5_init_4 : decode cX5_init 4 = .ok (.aload_n 0, 1) := by decide +kernel
theorem dX5_init_5 : decode cX5_init 5 = .ok (.new 7, 3) := by decide +kernel
theorem dX5_init_8 : decode cX5_init 8 = .ok (.dup, 1) := by decide +kernel
theorem dX5_init_9 : decode cX5_init 9 = .ok (.invokespecial 9, 3) := by decide +kernel
theorem dX5_init_12 : decode cX5_init 12 = .ok (.putfield 10, 3) := by decide +kernel
theorem dX5_init_15 : decode cX5_init 15 = .ok (.aload_n 0, 1) := by decide +kernel
theorem dX5_init_16 : decode cX5_init 16 = .ok (.new 7, 3) := by decide +kernel
theorem dX5_init_19 : decode cX5_init 19 = .ok (.dup, 1) := by decide +kernel
theorem dX5_init_20 : decode cX5_init 20 = .ok (.invokespecial 9, 3) := by decide +kernel
theorem dX5_init_23 : decode cX5_init 23 = .ok (.putfield 16, 3) := by decide +kernel
theorem dX5_init_26 : decode cX5_init 26 = .ok (.aload_n 0, 1) := by decide +kernel
theorem dX5_init_27 : decode cX5_init 27 = .ok (.new 19, 3) := by decide +kernel
theorem dX5_init_30 : decode cX5_init 30 = .ok (.dup, 1) := by decide +kernel
theorem dX5_init_31 : decode cX5_init 31 = .ok (.invokespecial 21, 3) := by decide +kernel
theorem dX5_init_34 : decode cX5_init 34 = .ok (.putfield 22, 3) := by decide +kernel
theorem dX5_init_37 : decode cX5_init 37 = .ok (.aload_n 0, 1) := by decide +kernel
theorem dX5_init_38 : decode cX5_init 38 = .ok (.new 26, 3) := by decide +kernel
theorem dX5_init_41 : decode cX5_init 41 = .ok (.dup, 1) := by decide +kernel
theorem dX5_init_42 : decode cX5_init 42 = .ok (.invokespecial 28, 3) := by decide +kernel
theorem dX5_init_45 : decode cX5_init 45 = .ok (.putfield 29, 3) := by decide +kernel
theorem dX5_init_48 : decode cX5_init 48 = .ok (.aload_n 0, 1) := by decide +kernel
theorem dX5_init_49 : decode cX5_init 49 = .ok (.iconst 2, 1) := by decide +kernel
theorem dX5_init_50 : decode cX5_init 50 = .ok (.anewarray 7, 3) := by decide +kernel
theorem dX5_init_53 : decode cX5_init 53 = .ok (.dup, 1) := by decide +kernel
theorem dX5_init_54 : decode cX5_init 54 = .ok (.iconst 0, 1) := by decide +kernel
theorem dX5_init_55 : decode cX5_init 55 = .ok (.new 7, 3) := by decide +kernel
theorem dX5_init_58 : decode cX5_init 58 = .ok (.dup, 1) := by decide +kernel
theorem dX5_init_59 : decode cX5_init 59 = .ok (.invokespecial 9, 3) := by decide +kernel
theorem dX5_init_62 : decode cX5_init 62 = .ok (.aastore, 1) := by decide +kernel
theorem dX5_init_63 : decode cX5_init 63 = .ok (.dup, 1) := by decide +kernel
theorem dX5_init_64 : decode cX5_init 64 = .ok (.iconst 1, 1) := by decide +kernel
theorem dX5_init_65 : decode cX5_init 65 = .ok (.new 7, 3) := by decide +kernel
theorem dX5_init_68 : decode cX5_init 68 = .ok (.dup, 1) := by decide +kernel
theorem dX5_init_69 : decode cX5_init 69 = .ok (.invokespecial 9, 3) := by decide +kernel
theorem dX5_init_72 : decode cX5_init 72 = .ok (.aastore, 1) := by decide +kernel
theorem dX5_init_73 : decode cX5_init 73 = .ok (.putfield 33, 3) := by decide +kernel
theorem dX5_init_76 : decode cX5_init 76 = .ok (.aload_n 0, 1) := by decide +kernel
theorem dX5_init_77 : decode cX5_init 77 = .ok (.iconst 2, 1) := by decide +kernel
theorem dX5_init_78 : decode cX5_init 78 = .ok (.newarray .boolean, 2) := by decide +kernel
theorem dX5_init_80 : decode cX5_init 80 = .ok (.putfield 37, 3) := by decide +kernel
theorem dX5_init_83 : decode cX5_init 83 = .ok (.return_, 1) := by decide +kernel
set_option maxRecDepth 20000 in
theorem ggX5_set_X2_keep : GoodIn wsX5_set wsX2_keep := goodIn_r _ [10, 11, 12, 13, 14, 15, 16, 17, 18, 19, 20, 21, 22, 23, 24, 25, 26, 27, 28, 29, 30, 31, 32, 33, 34, 35, 36, 37, 38, 39, 40, 41, 42, 43, 44, 45, 46, 47, 48, 49, 50, 51, 52, 53, 54, 55, 56, 57, 58, 59, 79, 80, 81, 66, 67, 68, 69, 70, 71, 72, 73, 74, 75, 76, 77, 78, 82, 83, 84, 85, 86, 87, 88, 89] (by decide +kernel) (by decide +kernel)
set_option maxRecDepth 20000 in
theorem gX5_set_X2_keep : GoodIn wsX5_set (wsV RX5 48 RX2 yX2_keep wsX2_keep) := goodIn_app (goodIn_of _ (by decide +kernel)) ggX5_set_X2_keep
theorem dX5_set_0 : decode cX5_set 0 = .ok (.iload_n 1, 1) := by decide +kernel
theorem dX5_set_1 : decode cX5_set 1 = .ok (.ifCond .lt 26, 3) := by decide +kernel
theorem dX5_set_4 : decode cX5_set 4 = .ok (.iload_n 1, 1) := by decide +kernel
theorem dX5_set_5 : decode cX5_set 5 = .ok (.iconst 4, 1) := by decide +kernel
theorem dX5_set_6 : decode cX5_set 6 = .ok (.if_icmp .ge 21, 3) := by decide +kernel
theorem dX5_set_9 : decode cX5_set 9 = .ok (.iload_n 2, 1) := by decide +kernel
theorem dX5_set_10 : decode cX5_set 10 = .ok (.getstatic 41, 3) := by decide +kernel
theorem dX5_set_13 : decode cX5_set 13 = .ok (.iload_n 1, 1) := by decide +kernel
theorem dX5_set_14 : decode cX5_set 14 = .ok (.iaload, 1) := by decide +kernel
theorem dX5_set_15 : decode cX5_set 15 = .ok (.if_icmp .lt 12, 3) := by decide +kernel
theorem dX5_set_18 : decode cX5_set 18 = .ok (.iload_n 2, 1) := by decide +kernel
theorem dX5_set_19 : decode cX5_set 19 = .ok (.getstatic 45, 3) := by decide +kernel
theorem dX5_set_22 : decode cX5_set 22 = .ok (.iload_n 1, 1) := by decide +kernel
theorem dX5_set_23 : decode cX5_set 23 = .ok (.iaload, 1) := by decide +kernel
theorem dX5_set_24 : decode cX5_set 24 = .ok (.if_icmp .le 6, 3) := by decide +kernel
theorem dX5_set_27 : decode cX5_set 27 = .ok (.bipush (-2), 2) := by decide +kernel
theorem dX5_set_29 : decode cX5_set 29 = .ok (.ireturn, 1) := by decide +kernel
theorem dX5_set_30 : decode cX5_set 30 = .ok (.aload_n 0, 1) := by decide +kernel
theorem dX5_set_31 : decode cX5_set 31 = .ok (.getfield 22, 3) := by decide +kernel
theorem dX5_set_34 : decode cX5_set 34 = .ok (.aload_n 0, 1) := by decide +kernel
theorem dX5_set_35 : decode cX5_set 35 = .ok (.getfield 10, 3) := by decide +kernel
theorem dX5_set_38 : decode cX5_set 38 = .ok (.invokevirtual 48, 3) := by decide +kernel
theorem dX5_set_41 : decode cX5_set 41 = .ok (.aload_n 0, 1) := by decide +kernel
theorem dX5_set_42 : decode cX5_set 42 = .ok (.getfield 10, 3) := by decide +kernel
theorem dX5_set_45 : decode cX5_set 45 = .ok (.getfield 52, 3) := by decide +kernel
theorem dX5_set_48 : decode cX5_set 48 = .ok (.iload_n 1, 1) := by decide +kernel
theorem dX5_set_49 : decode cX5_set 49 = .ok (.iaload, 1) := by decide +kernel
theorem dX5_set_50 : decode cX5_set 50 = .ok (.istore_n 3, 1) := by decide +kernel
theorem dX5_set_51 : decode cX5_set 51 = .ok (.aload_n 0, 1) := by decide +kernel
theorem dX5_set_52 : decode cX5_set 52 = .ok (.getfield 10, 3) := by decide +kernel
theorem dX5_set_55 : decode cX5_set 55 = .ok (.getfield 52, 3) := by decide +kernel
theorem dX5_set_58 : decode cX5_set 58 = .ok (.iload_n 1, 1) := by decide +kernel
theorem dX5_set_59 : decode cX5_set 59 = .ok (.iload_n 2, 1) := by decide +kernel
theorem dX5_set_60 : decode cX5_set 60 = .ok (.iastore, 1) := by decide +kernel
theorem dX5_set_61 : decode cX5_set 61 = .ok (.iload_n 3, 1) := by decide +kernel
theorem dX5_set_62 : decode cX5_set 62 = .ok (.ireturn, 1) := by decide +kernel
set_option maxRecDepth 20000 in
theorem ggX5_peg_X5_isRow : GoodIn wsX5_peg wsX5_isRow := goodIn_r _ [8] (by decide +kernel) (by decide +kernel)
set_option maxRecDepth 20000 in
theorem gX5_peg_X5_isRow : GoodIn wsX5_peg (va_wsS RX5 55 yX5_isRow wsX5_isRow) := goodIn_app (goodIn_of _ (by decide +kernel)) ggX5_peg_X5_isRow
set_option maxRecDepth 20000 in
theorem ggX5_peg_X5_isPlace : GoodIn wsX5_peg wsX5_isPlace := goodIn_r _ [11] (by decide +kernel) (by decide +kernel)
set_option maxRecDepth 20000 in
theorem gX5_peg_X5_isPlace : GoodIn wsX5_peg (va_wsS RX5 59 yX5_isPlace wsX5_isPlace) := goodIn_app (goodIn_of _ (by decide +kernel)) ggX5_peg_X5_isPlace
set_option maxRecDepth 20000 in
theorem ggX5_peg_X2_keep : GoodIn wsX5_peg wsX2_keep := goodIn_r _ [16, 17, 18, 19, 20, 21, 22, 23, 24, 25, 26, 27, 28, 29, 30, 31, 32, 33, 34, 35, 36, 37, 38, 39, 40, 41, 42, 43, 44, 45, 46, 47, 48, 49, 50, 51, 52, 53, 54, 55, 56, 57, 58, 59, 60, 61, 62, 63, 64, 65, 108, 109, 110, 91, 92, 93, 94, 95, 96, 97, 98, 99, 100, 101, 102, 103, 104, 105, 106, 107, 111, 112, 113, 114] (by decide +kernel) (by decide +kernel)
set_option maxRecDepth 20000 in
theorem gX5_peg_X2_keep : GoodIn wsX5_peg (wsV RX5 48 RX2 yX2_keep wsX2_keep) := goodIn_app (goodIn_of _ (by decide +kernel)) ggX5_peg_X2_keep
set_option maxRecDepth 20000 in
theorem ggX5_peg_X1_giveRow : GoodIn wsX5_peg wsX1_giveRow := goodIn_r _ [69, 53, 51, 70, 71, 72, 49, 73, 104, 105, 106, 107] (by decide +kernel) (by decide +kernel)
set_option maxRecDepth 20000 in
theorem gX5_peg_X1_giveRow : GoodIn wsX5_peg (wsV RX5 71 RX1 yX1_giveRow wsX1_giveRow) := goodIn_app (goodIn_of _ (by decide +kernel)) ggX5_peg_X1_giveRow
set_option maxRecDepth 20000 in
theorem ggX5_peg_X1_pegsInRow : GoodIn wsX5_peg wsX1_pegsInRow := goodIn_r _ [77, 51, 78, 79, 80, 81, 82, 83, 84, 104, 105, 106, 107] (by decide +kernel) (by decide +kernel)
set_option maxRecDepth 20000 in
theorem gX5_peg_X1_pegsInRow : GoodIn wsX5_peg (wsV RX5 75 RX1 yX1_pegsInRow wsX1_pegsInRow) := goodIn_app (goodIn_of _ (by decide +kernel)) ggX5_peg_X1_pegsInRow
theorem dX5_peg_0 : decode cX5_peg 0 = .ok (.iload_n 1, 1) := by decide +kernel
theorem dX5_peg_1 : decode cX5_peg 1 = .ok (.invokestatic 55, 3) := by decide +kernel
theorem dX5_peg_4 : decode cX5_peg 4 = .ok (.ifCond .eq 10, 3) := by decide +kernel
theorem dX5_peg_7 : decode cX5_peg 7 = .ok (.iload_n 2, 1) := by decide +kernel
theorem dX5_peg_8 : decode cX5_peg 8 = .ok (.invokestatic 59, 3) := by decide +kernel
theorem dX5_peg_11 : decode cX5_peg 11 = .ok (.ifCond .ne 5, 3) := by decide +kernel
theorem dX5_peg_14 : decode cX5_peg 14 = .ok (.iconst (-1), 1) := by decide +kernel
theorem dX5_peg_15 : decode cX5_peg 15 = .ok (.ireturn, 1) := by decide +kernel
theorem dX5_peg_16 : decode cX5_peg 16 = .ok (.aload_n 0, 1) := by decide +kernel
theorem dX5_peg_17 : decode cX5_peg 17 = .ok (.getfield 22, 3) := by decide +kernel
theorem dX5_peg_20 : decode cX5_peg 20 = .ok (.aload_n 0, 1) := by decide +kernel
theorem dX5_peg_21 : decode cX5_peg 21 = .ok (.getfield 10, 3) := by decide +kernel
theorem dX5_peg_24 : decode cX5_peg 24 = .ok (.invokevirtual 48, 3) := by decide +kernel
theorem dX5_peg_27 : decode cX5_peg 27 = .ok (.aload_n 0, 1) := by decide +kernel
theorem dX5_peg_28 : decode cX5_peg 28 = .ok (.getfield 10, 3) := by decide +kernel
theorem dX5_peg_31 : decode cX5_peg 31 = .ok (.getfield 62, 3) := by decide +kernel
theorem dX5_peg_34 : decode cX5_peg 34 = .ok (.iload_n 1, 1) := by decide +kernel
theorem dX5_peg_35 : decode cX5_peg 35 = .ok (.aload_n 0, 1) := by decide +kernel
theorem dX5_peg_36 : decode cX5_peg 36 = .ok (.getfield 10, 3) := by decide +kernel
theorem dX5_peg_39 : decode cX5_peg 39 = .ok (.getfield 62, 3) := by decide +kernel
theorem dX5_peg_42 : decode cX5_peg 42 = .ok (.getfield 66, 3) := by decide +kernel
theorem dX5_peg_45 : decode cX5_peg 45 = .ok (.iload_n 1, 1) := by decide +kernel
theorem dX5_peg_46 : decode cX5_peg 46 = .ok (.iaload, 1) := by decide +kernel
theorem dX5_peg_47 : decode cX5_peg 47 = .ok (.iconst 1, 1) := by decide +kernel
theorem dX5_peg_48 : decode cX5_peg 48 = .ok (.iload_n 2, 1) := by decide +kernel
theorem dX5_peg_49 : decode cX5_peg 49 = .ok (.ishl, 1) := by decide +kernel
theorem dX5_peg_50 : decode cX5_peg 50 = .ok (.ixor, 1) := by decide +kernel
theorem dX5_peg_51 : decode cX5_peg 51 = .ok (.invokevirtual 71, 3) := by decide +kernel
theorem dX5_peg_54 : decode cX5_peg 54 = .ok (.aload_n 0, 1) := by decide +kernel
theorem dX5_peg_55 : decode cX5_peg 55 = .ok (.getfield 10, 3) := by decide +kernel
theorem dX5_peg_58 : decode cX5_peg 58 = .ok (.getfield 62, 3) := by decide +kernel
theorem dX5_peg_61 : decode cX5_peg 61 = .ok (.iload_n 1, 1) := by decide +kernel
theorem dX5_peg_62 : decode cX5_peg 62 = .ok (.invokevirtual 75, 3) := by decide +kernel
theorem dX5_peg_65 : decode cX5_peg 65 = .ok (.ireturn, 1) := by decide +kernel
set_option maxRecDepth 20000 in
theorem ggX5_order_X2_keep : GoodIn wsX5_order wsX2_keep := goodIn_r _ [8, 9, 10, 11, 12, 13, 14, 15, 16, 17, 18, 19, 20, 21, 22, 23, 24, 25, 26, 27, 28, 29, 30, 31, 32, 33, 34, 35, 36, 37, 38, 39, 40, 41, 42, 43, 44, 45, 46, 47, 48, 49, 50, 51, 52, 53, 54, 55, 56, 57, 77, 78, 79, 64, 65, 66, 67, 68, 69, 70, 71, 72, 73, 74, 75, 76, 80, 81, 82, 83, 84, 85, 86, 87] (by decide +kernel) (by decide +kernel)
set_option maxRecDepth 20000 in
theorem gX5_order_X2_keep : GoodIn wsX5_order (wsV RX5 48 RX2 yX2_keep wsX2_keep) := goodIn_app (goodIn_of _ (by decide +kernel)) ggX5_order_X2_keep
theorem dX5_order_0 : decode cX5_order 0 = .ok (.iload_n 1, 1) := by decide +kernel
theorem dX5_order_1 : decode cX5_order 1 = .ok (.ifCond .lt 9, 3) := by decide +kernel
theorem dX5_order_4 : decode cX5_order 4 = .ok (.iload_n 1, 1) := by decide +kernel
theorem dX5_order_5 : decode cX5_order 5 = .ok (.bipush 64, 2) := by decide +kernel
theorem dX5_order_7 : decode cX5_order 7 = .ok (.if_icmp .lt 6, 3) := by decide +kernel
theorem dX5_order_10 : decode cX5_order 10 = .ok (.bipush (-2), 2) := by decide +kernel
theorem dX5_order_12 : decode cX5_order 12 = .ok (.ireturn, 1) := by decide +kernel
theorem dX5_order_13 : decode cX5_order 13 = .ok (.aload_n 0, 1) := by decide +kernel
theorem dX5_order_14 : decode cX5_order 14 = .ok (.getfield 22, 3) := by decide +kernel
theorem dX5_order_17 : decode cX5_order 17 = .ok (.aload_n 0, 1) := by decide +kernel
theorem dX5_order_18 : decode cX5_order 18 = .ok (.getfield 10, 3) := by decide +kernel
theorem dX5_order_21 : decode cX5_order 21 = .ok (.invokevirtual 48, 3) := by decide +kernel
theorem dX5_order_24 : decode cX5_order 24 = .ok (.aload_n 0, 1) := by decide +kernel
theorem dX5_order_25 : decode cX5_order 25 = .ok (.getfield 10, 3) := by decide +kernel
theorem dX5_order_28 : decode cX5_order 28 = .ok (.getfield 79, 3) := by decide +kernel
theorem dX5_order_31 : decode cX5_order 31 = .ok (.istore_n 2, 1) := by decide +kernel
theorem dX5_order_32 : decode cX5_order 32 = .ok (.aload_n 0, 1) := by decide +kernel
theorem dX5_order_33 : decode cX5_order 33 = .ok (.getfield 10, 3) := by decide +kernel
theorem dX5_order_36 : decode cX5_order 36 = .ok (.iload_n 1, 1) := by decide +kernel
theorem dX5_order_37 : decode cX5_order 37 = .ok (.putfield 79, 3) := by decide +kernel
theorem dX5_order_40 : decode cX5_order 40 = .ok (.iload_n 2, 1) := by decide +kernel
theorem dX5_order_41 : decode cX5_order 41 = .ok (.ireturn, 1) := by decide +kernel
set_option maxRecDepth 20000 in
theorem ggX5_ink_X5_isPlace : GoodIn wsX5_ink wsX5_isPlace := goodIn_r _ [8] (by decide +kernel) (by decide +kernel)
set_option maxRecDepth 20000 in
theorem gX5_ink_X5_isPlace : GoodIn wsX5_ink (va_wsS RX5 59 yX5_isPlace wsX5_isPlace) := goodIn_app (goodIn_of _ (by decide +kernel)) ggX5_ink_X5_isPlace
set_option maxRecDepth 20000 in
theorem ggX5_ink_X2_keep : GoodIn wsX5_ink wsX2_keep := goodIn_r _ [13, 14, 15, 16, 17, 18, 19, 20, 21, 22, 23, 24, 25, 26, 27, 28, 29, 30, 31, 32, 33, 34, 35, 36, 37, 38, 39, 40, 41, 42, 43, 44, 45, 46, 47, 48, 49, 50, 51, 52, 53, 54, 55, 56, 57, 58, 59, 60, 61, 62, 86, 87, 88, 69, 70, 71, 72, 73, 74, 75, 76, 77, 78, 79, 80, 81, 89, 90, 91, 92, 82, 83, 84, 85] (by decide +kernel) (by decide +kernel)
set_option maxRecDepth 20000 in
theorem gX5_ink_X2_keep : GoodIn wsX5_ink (wsV RX5 48 RX2 yX2_keep wsX2_keep) := goodIn_app (goodIn_of _ (by decide +kernel)) ggX5_ink_X2_keep
theorem dX5_ink_0 : decode cX5_ink 0 = .ok (.iload_n 1, 1) := by decide +kernel
theorem dX5_ink_1 : decode cX5_ink 1 = .ok (.invokestatic 59, 3) := by decide +kernel
theorem dX5_ink_4 : decode cX5_ink 4 = .ok (.ifCond .ne 5, 3) := by decide +kernel
theorem dX5_ink_7 : decode cX5_ink 7 = .ok (.iconst (-1), 1) := by decide +kernel
theorem dX5_ink_8 : decode cX5_ink 8 = .ok (.ireturn, 1) := by decide +kernel
theorem dX5_ink_9 : decode cX5_ink 9 = .ok (.aload_n 0, 1) := by decide +kernel
theorem dX5_ink_10 : decode cX5_ink 10 = .ok (.getfield 22, 3) := by decide +kernel
theorem dX5_ink_13 : decode cX5_ink 13 = .ok (.aload_n 0, 1) := by decide +kernel
theorem dX5_ink_14 : decode cX5_ink 14 = .ok (.getfield 10, 3) := by decide +kernel
theorem dX5_ink_17 : decode cX5_ink 17 = .ok (.invokevirtual 48, 3) := by decide +kernel
theorem dX5_ink_20 : decode cX5_ink 20 = .ok (.bipush 99, 2) := by decide +kernel
theorem dX5_ink_22 : decode cX5_ink 22 = .ok (.aload_n 0, 1) := by decide +kernel
theorem dX5_ink_23 : decode cX5_ink 23 = .ok (.getfield 10, 3) := by decide +kernel
theorem dX5_ink_26 : decode cX5_ink 26 = .ok (.getfield 83, 3) := by decide +kernel
theorem dX5_ink_29 : decode cX5_ink 29 = .ok (.getfield 87, 3) := by decide +kernel
theorem dX5_ink_32 : decode cX5_ink 32 = .ok (.iload_n 1, 1) := by decide +kernel
theorem dX5_ink_33 : decode cX5_ink 33 = .ok (.iaload, 1) := by decide +kernel
theorem dX5_ink_34 : decode cX5_ink 34 = .ok (.isub, 1) := by decide +kernel
theorem dX5_ink_35 : decode cX5_ink 35 = .ok (.istore_n 2, 1) := by decide +kernel
theorem dX5_ink_36 : decode cX5_ink 36 = .ok (.aload_n 0, 1) := by decide +kernel
theorem dX5_ink_37 : decode cX5_ink 37 = .ok (.getfield 10, 3) := by decide +kernel
theorem dX5_ink_40 : decode cX5_ink 40 = .ok (.getfield 83, 3) := by decide +kernel
theorem dX5_ink_43 : decode cX5_ink 43 = .ok (.getfield 87, 3) := by decide +kernel
theorem dX5_ink_46 : decode cX5_ink 46 = .ok (.iload_n 1, 1) := by decide +kernel
theorem dX5_ink_47 : decode cX5_ink 47 = .ok (.bipush 99, 2) := by decide +kernel
theorem dX5_ink_49 : decode cX5_ink 49 = .ok (.iastore, 1) := by decide +kernel
theorem dX5_ink_50 : decode cX5_ink 50 = .ok (.iload_n 2, 1) := by decide +kernel
theorem dX5_ink_51 : decode cX5_ink 51 = .ok (.ireturn, 1) := by decide +kernel
set_option maxRecDepth 20000 in
theorem ggX5_step_X2_keep : GoodIn wsX5_step wsX2_keep := goodIn_r _ [10, 11, 12, 13, 14, 15, 16, 17, 18, 19, 20, 21, 22, 23, 24, 25, 26, 27, 28, 29, 30, 31, 32, 33, 34, 35, 36, 37, 38, 39, 40, 41, 42, 43, 44, 45, 46, 47, 48, 49, 50, 51, 52, 53, 54, 55, 56, 57, 58, 59, 136, 137, 138, 123, 124, 125, 126, 127, 128, 129, 130, 131, 132, 133, 134, 135, 139, 140, 141, 142, 143, 144, 145, 146] (by decide +kernel) (by decide +kernel)
set_option maxRecDepth 20000 in
theorem gX5_step_X2_keep : GoodIn wsX5_step (wsV RX5 48 RX2 yX2_keep wsX2_keep) := goodIn_app (goodIn_of _ (by decide +kernel)) ggX5_step_X2_keep
set_option maxRecDepth 20000 in
theorem ggX5_step_X0_makeSteps : GoodIn wsX5_step wsX0_makeSteps := goodIn_r _ [63, 64, 65, 66, 21, 67, 30, 28, 68, 39, 69, 35, 34, 23, 70, 71, 72, 73, 74, 75, 76, 43, 77, 45, 78, 79, 80, 81, 82, 83, 84, 85, 86, 87, 88, 89, 90, 91, 92, 32, 33, 29, 93, 94, 95, 96, 53, 97, 55, 58, 57, 98, 99, 100, 101, 47, 49, 102, 103, 104, 105, 48, 106, 107, 108, 109, 110, 111, 112, 38, 31, 36, 37, 113, 114, 115, 116, 123, 124, 125, 126, 127, 128, 129, 130, 131, 132, 133, 134, 135, 139, 140, 141, 142, 143, 144, 145, 146] (by decide +kernel) (by decide +kernel)
set_option maxRecDepth 20000 in
theorem gX5_step_X0_makeSteps : GoodIn wsX5_step (wsV RX5 100 RX0 yX0_makeSteps wsX0_makeSteps) := goodIn_app (goodIn_of _ (by decide +kernel)) ggX5_step_X0_makeSteps
theorem dX5_step_0 : decode cX5_step 0 = .ok (.iload_n 1, 1) := by decide +kernel
theorem dX5_step_1 : decode cX5_step 1 = .ok (.iconst 1, 1) := by decide +kernel
theorem dX5_step_2 : decode cX5_step 2 = .ok (.if_icmp .lt 10, 3) := by decide +kernel
theorem dX5_step_5 : decode cX5_step 5 = .ok (.iload_n 1, 1) := by decide +kernel
theorem dX5_step_6 : decode cX5_step 6 = .ok (.sipush 200, 3) := by decide +kernel
theorem dX5_step_9 : decode cX5_step 9 = .ok (.if_icmp .le 6, 3) := by decide +kernel
theorem dX5_step_12 : decode cX5_step 12 = .ok (.bipush (-2), 2) := by decide +kernel
theorem dX5_step_14 : decode cX5_step 14 = .ok (.ireturn, 1) := by decide +kernel
theorem dX5_step_15 : decode cX5_step 15 = .ok (.aload_n 0, 1) := by decide +kernel
theorem dX5_step_16 : decode cX5_step 16 = .ok (.getfield 10, 3) := by decide +kernel
theorem dX5_step_19 : decode cX5_step 19 = .ok (.getfield 92, 3) := by decide +kernel
theorem dX5_step_22 : decode cX5_step 22 = .ok (.ifCond .eq 6, 3) := by decide +kernel
theorem dX5_step_25 : decode cX5_step 25 = .ok (.bipush (-5), 2) := by decide +kernel
theorem dX5_step_27 : decode cX5_step 27 = .ok (.ireturn, 1) := by decide +kernel
theorem dX5_step_28 : decode cX5_step 28 = .ok (.aload_n 0, 1) := by decide +kernel
theorem dX5_step_29 : decode cX5_step 29 = .ok (.getfield 10, 3) := by decide +kernel
theorem dX5_step_32 : decode cX5_step 32 = .ok (.getfield 96, 3) := by decide +kernel
theorem dX5_step_35 : decode cX5_step 35 = .ok (.iload_n 1, 1) := by decide +kernel
theorem dX5_step_36 : decode cX5_step 36 = .ok (.iadd, 1) := by decide +kernel
theorem dX5_step_37 : decode cX5_step 37 = .ok (.ldc 99, 2) := by decide +kernel
theorem dX5_step_39 : decode cX5_step 39 = .ok (.if_icmp .le 6, 3) := by decide +kernel
theorem dX5_step_42 : decode cX5_step 42 = .ok (.bipush (-4), 2) := by decide +kernel
theorem dX5_step_44 : decode cX5_step 44 = .ok (.ireturn, 1) := by decide +kernel
theorem dX5_step_45 : decode cX5_step 45 = .ok (.aload_n 0, 1) := by decide +kernel
theorem dX5_step_46 : decode cX5_step 46 = .ok (.getfield 22, 3) := by decide +kernel
theorem dX5_step_49 : decode cX5_step 49 = .ok (.aload_n 0, 1) := by decide +kernel
theorem dX5_step_50 : decode cX5_step 50 = .ok (.getfield 10, 3) := by decide +kernel
theorem dX5_step_53 : decode cX5_step 53 = .ok (.invokevirtual 48, 3) := by decide +kernel
theorem dX5_step_56 : decode cX5_step 56 = .ok (.aload_n 0, 1) := by decide +kernel
theorem dX5_step_57 : decode cX5_step 57 = .ok (.getfield 10, 3) := by decide +kernel
theorem dX5_step_60 : decode cX5_step 60 = .ok (.iload_n 1, 1) := by decide +kernel
theorem dX5_step_61 : decode cX5_step 61 = .ok (.invokevirtual 100, 3) := by decide +kernel
theorem dX5_step_64 : decode cX5_step 64 = .ok (.ireturn, 1) := by decide +kernel
set_option maxRecDepth 20000 in
theorem ggX5_free_X2_keep : GoodIn wsX5_free wsX2_keep := goodIn_r _ [10, 11, 12, 13, 14, 15, 16, 17, 18, 19, 20, 21, 22, 23, 24, 25, 26, 27, 28, 29, 30, 31, 32, 33, 34, 35, 36, 37, 38, 39, 40, 41, 42, 43, 44, 45, 46, 47, 48, 49, 50, 51, 52, 53, 54, 55, 56, 57, 58, 59, 90, 91, 92, 73, 74, 75, 76, 77, 78, 79, 80, 81, 82, 83, 84, 85, 86, 87, 88, 89, 93, 94, 95, 96] (by decide +kernel) (by decide +kernel)
set_option maxRecDepth 20000 in
theorem gX5_free_X2_keep : GoodIn wsX5_free (wsV RX5 48 RX2 yX2_keep wsX2_keep) := goodIn_app (goodIn_of _ (by decide +kernel)) ggX5_free_X2_keep
set_option maxRecDepth 20000 in
theorem ggX5_free_X1_goOn : GoodIn wsX5_free wsX1_goOn := goodIn_r _ [63, 48, 64, 65, 43, 66, 86, 87, 88, 89] (by decide +kernel) (by decide +kernel)
set_option maxRecDepth 20000 in
theorem gX5_free_X1_goOn : GoodIn wsX5_free (wsV RX5 106 RX1 yX1_goOn wsX1_goOn) := goodIn_app (goodIn_of _ (by decide +kernel)) ggX5_free_X1_goOn
theorem dX5_free_0 : decode cX5_free 0 = .ok (.aload_n 0, 1) := by decide +kernel
theorem dX5_free_1 : decode cX5_free 1 = .ok (.getfield 10, 3) := by decide +kernel
theorem dX5_free_4 : decode cX5_free 4 = .ok (.getfield 92, 3) := by decide +kernel
theorem dX5_free_7 : decode cX5_free 7 = .ok (.ifCond .ne 6, 3) := by decide +kernel
theorem dX5_free_10 : decode cX5_free 10 = .ok (.bipush (-5), 2) := by decide +kernel
theorem dX5_free_12 : decode cX5_free 12 = .ok (.ireturn, 1) := by decide +kernel
theorem dX5_free_13 : decode cX5_free 13 = .ok (.aload_n 0, 1) := by decide +kernel
theorem dX5_free_14 : decode cX5_free 14 = .ok (.getfield 22, 3) := by decide +kernel
theorem dX5_free_17 : decode cX5_free 17 = .ok (.aload_n 0, 1) := by decide +kernel
theorem dX5_free_18 : decode cX5_free 18 = .ok (.getfield 10, 3) := by decide +kernel
theorem dX5_free_21 : decode cX5_free 21 = .ok (.invokevirtual 48, 3) := by decide +kernel
theorem dX5_free_24 : decode cX5_free 24 = .ok (.aload_n 0, 1) := by decide +kernel
theorem dX5_free_25 : decode cX5_free 25 = .ok (.getfield 10, 3) := by decide +kernel
theorem dX5_free_28 : decode cX5_free 28 = .ok (.getfield 62, 3) := by decide +kernel
theorem dX5_free_31 : decode cX5_free 31 = .ok (.getfield 103, 3) := by decide +kernel
theorem dX5_free_34 : decode cX5_free 34 = .ok (.istore_n 1, 1) := by decide +kernel
theorem dX5_free_35 : decode cX5_free 35 = .ok (.aload_n 0, 1) := by decide +kernel
theorem dX5_free_36 : decode cX5_free 36 = .ok (.getfield 10, 3) := by decide +kernel
theorem dX5_free_39 : decode cX5_free 39 = .ok (.iconst 0, 1) := by decide +kernel
theorem dX5_free_40 : decode cX5_free 40 = .ok (.putfield 92, 3) := by decide +kernel
theorem dX5_free_43 : decode cX5_free 43 = .ok (.aload_n 0, 1) := by decide +kernel
theorem dX5_free_44 : decode cX5_free 44 = .ok (.getfield 10, 3) := by decide +kernel
theorem dX5_free_47 : decode cX5_free 47 = .ok (.getfield 62, 3) := by decide +kernel
theorem dX5_free_50 : decode cX5_free 50 = .ok (.invokevirtual 106, 3) := by decide +kernel
theorem dX5_free_53 : decode cX5_free 53 = .ok (.iload_n 1, 1) := by decide +kernel
theorem dX5_free_54 : decode cX5_free 54 = .ok (.ireturn, 1) := by decide +kernel
set_option maxRecDepth 20000 in
theorem ggX5_newForm_X2_keep : GoodIn wsX5_newForm wsX2_keep := goodIn_r _ [8, 9, 10, 11, 12, 13, 14, 15, 16, 17, 18, 19, 20, 21, 22, 23, 24, 25, 26, 27, 28, 29, 30, 31, 32, 33, 34, 35, 36, 37, 38, 39, 40, 41, 42, 43, 44, 45, 46, 47, 48, 49, 50, 51, 52, 53, 54, 55, 56, 57, 81, 82, 83, 68, 69, 70, 71, 72, 73, 74, 75, 76, 77, 78, 79, 80, 84, 85, 86, 87, 88, 89, 90, 91] (by decide +kernel) (by decide +kernel)
set_option maxRecDepth 20000 in
theorem gX5_newForm_X2_keep : GoodIn wsX5_newForm (wsV RX5 48 RX2 yX2_keep wsX2_keep) := goodIn_app (goodIn_of _ (by decide +kernel)) ggX5_newForm_X2_keep
set_option maxRecDepth 20000 in
theorem ggX5_newForm_X0_layForm : GoodIn wsX5_newForm wsX0_layForm := goodIn_r _ [61, 30, 31, 32, 68, 69, 70, 71, 72, 73, 74, 75, 76, 77, 78, 79, 80] (by decide +kernel) (by decide +kernel)
set_option maxRecDepth 20000 in
theorem gX5_newForm_X0_layForm : GoodIn wsX5_newForm (wsV RX5 112 RX0 yX0_layForm wsX0_layForm) := goodIn_app (goodIn_of _ (by decide +kernel)) ggX5_newForm_X0_layForm
theorem dX5_newForm_0 : decode cX5_newForm 0 = .ok (.aload_n 0, 1) := by decide +kernel
theorem dX5_newForm_1 : decode cX5_newForm 1 = .ok (.getfield 22, 3) := by decide +kernel
theorem dX5_newForm_4 : decode cX5_newForm 4 = .ok (.aload_n 0, 1) := by decide +kernel
theorem dX5_newForm_5 : decode cX5_newForm 5 = .ok (.getfield 10, 3) := by decide +kernel
theorem dX5_newForm_8 : decode cX5_newForm 8 = .ok (.invokevirtual 48, 3) := by decide +kernel
theorem dX5_newForm_11 : decode cX5_newForm 11 = .ok (.aload_n 0, 1) := by decide +kernel
theorem dX5_newForm_12 : decode cX5_newForm 12 = .ok (.getfield 10, 3) := by decide +kernel
theorem dX5_newForm_15 : decode cX5_newForm 15 = .ok (.getfield 109, 3) := by decide +kernel
theorem dX5_newForm_18 : decode cX5_newForm 18 = .ok (.istore_n 1, 1) := by decide +kernel
theorem dX5_newForm_19 : decode cX5_newForm 19 = .ok (.aload_n 0, 1) := by decide +kernel
theorem dX5_newForm_20 : decode cX5_newForm 20 = .ok (.getfield 10, 3) := by decide +kernel
theorem dX5_newForm_23 : decode cX5_newForm 23 = .ok (.invokevirtual 112, 3) := by decide +kernel
theorem dX5_newForm_26 : decode cX5_newForm 26 = .ok (.iload_n 1, 1) := by decide +kernel
theorem dX5_newForm_27 : decode cX5_newForm 27 = .ok (.ireturn, 1) := by decide +kernel
set_option maxRecDepth 20000 in
theorem ggX5_read_X3_firstFault : GoodIn wsX5_read wsX3_firstFault := goodIn_r _ [9, 10, 11, 12, 13, 8, 14, 15, 16, 17, 18, 19, 20, 127, 128] (by decide +kernel) (by decide +kernel)
set_option maxRecDepth 20000 in
theorem gX5_read_X3_firstFault : GoodIn wsX5_read (wsV RX5 115 RX3 yX3_firstFault wsX3_firstFault) := goodIn_app (goodIn_of _ (by decide +kernel)) ggX5_read_X3_firstFault
set_option maxRecDepth 20000 in
theorem ggX5_read_X2_keep : GoodIn wsX5_read wsX2_keep := goodIn_r _ [25, 26, 27, 28, 29, 30, 31, 32, 33, 34, 35, 36, 37, 38, 39, 40, 41, 42, 43, 44, 45, 46, 47, 48, 49, 50, 51, 52, 53, 54, 55, 56, 57, 58, 59, 60, 61, 62, 63, 64, 65, 66, 67, 68, 69, 70, 71, 72, 73, 74, 129, 130, 131, 114, 115, 116, 117, 118, 119, 120, 121, 122, 123, 124, 125, 126, 132, 133, 134, 135, 136, 137, 138, 139] (by decide +kernel) (by decide +kernel)
set_option maxRecDepth 20000 in
theorem gX5_read_X2_keep : GoodIn wsX5_read (wsV RX5 48 RX2 yX2_keep wsX2_keep) := goodIn_app (goodIn_of _ (by decide +kernel)) ggX5_read_X2_keep
set_option maxRecDepth 20000 in
theorem ggX5_read_X3_changeRows : GoodIn wsX5_read wsX3_changeRows := goodIn_r _ [78, 10, 11, 79, 19, 80, 81, 82, 83, 58, 84, 62, 60, 85, 86, 87, 88, 127, 128, 132, 133, 134, 135] (by decide +kernel) (by decide +kernel)
set_option maxRecDepth 20000 in
theorem gX5_read_X3_changeRows : GoodIn wsX5_read (wsV RX5 119 RX3 yX3_changeRows wsX3_changeRows) := goodIn_app (goodIn_of _ (by decide +kernel)) ggX5_read_X3_changeRows
set_option maxRecDepth 20000 in
theorem ggX5_read_X3_empty : GoodIn wsX5_read wsX3_empty := goodIn_r _ [92, 10, 127, 128] (by decide +kernel) (by decide +kernel)
set_option maxRecDepth 20000 in
theorem gX5_read_X3_empty : GoodIn wsX5_read (wsV RX5 123 RX3 yX3_empty wsX3_empty) := goodIn_app (goodIn_of _ (by decide +kernel)) ggX5_read_X3_empty
set_option maxRecDepth 20000 in
theorem ggX5_read_X1_allPegs : GoodIn wsX5_read wsX1_allPegs := goodIn_r _ [96, 97, 98, 99, 58, 100, 60, 101, 102, 103, 104, 105, 106, 107, 132, 133, 134, 135] (by decide +kernel) (by decide +kernel)
set_option maxRecDepth 20000 in
theorem gX5_read_X1_allPegs : GoodIn wsX5_read (wsV RX5 126 RX1 yX1_allPegs wsX1_allPegs) := goodIn_app (goodIn_of _ (by decide +kernel)) ggX5_read_X1_allPegs
theorem dX5_read_0 : decode cX5_read 0 = .ok (.aload_n 0, 1) := by decide +kernel
theorem dX5_read_1 : decode cX5_read 1 = .ok (.getfield 29, 3) := by decide +kernel
theorem dX5_read_4 : decode cX5_read 4 = .ok (.invokevirtual 115, 3) := by decide +kernel
theorem dX5_read_7 : decode cX5_read 7 = .ok (.bipush (-6), 2) := by decide +kernel
theorem dX5_read_9 : decode cX5_read 9 = .ok (.if_icmp .eq 6, 3) := by decide +kernel
theorem dX5_read_12 : decode cX5_read 12 = .ok (.bipush (-3), 2) := by decide +kernel
theorem dX5_read_14 : decode cX5_read 14 = .ok (.ireturn, 1) := by decide +kernel
theorem dX5_read_15 : decode cX5_read 15 = .ok (.aload_n 0, 1) := by decide +kernel
theorem dX5_read_16 : decode cX5_read 16 = .ok (.getfield 22, 3) := by decide +kernel
theorem dX5_read_19 : decode cX5_read 19 = .ok (.aload_n 0, 1) := by decide +kernel
theorem dX5_read_20 : decode cX5_read 20 = .ok (.getfield 10, 3) := by decide +kernel
theorem dX5_read_23 : decode cX5_read 23 = .ok (.invokevirtual 48, 3) := by decide +kernel
theorem dX5_read_26 : decode cX5_read 26 = .ok (.aload_n 0, 1) := by decide +kernel
theorem dX5_read_27 : decode cX5_read 27 = .ok (.getfield 29, 3) := by decide +kernel
theorem dX5_read_30 : decode cX5_read 30 = .ok (.aload_n 0, 1) := by decide +kernel
theorem dX5_read_31 : decode cX5_read 31 = .ok (.getfield 10, 3) := by decide +kernel
theorem dX5_read_34 : decode cX5_read 34 = .ok (.getfield 62, 3) := by decide +kernel
theorem dX5_read_37 : decode cX5_read 37 = .ok (.invokevirtual 119, 3) := by decide +kernel
theorem dX5_read_40 : decode cX5_read 40 = .ok (.aload_n 0, 1) := by decide +kernel
theorem dX5_read_41 : decode cX5_read 41 = .ok (.getfield 29, 3) := by decide +kernel
theorem dX5_read_44 : decode cX5_read 44 = .ok (.invokevirtual 123, 3) := by decide +kernel
theorem dX5_read_47 : decode cX5_read 47 = .ok (.aload_n 0, 1) := by decide +kernel
theorem dX5_read_48 : decode cX5_read 48 = .ok (.getfield 10, 3) := by decide +kernel
theorem dX5_read_51 : decode cX5_read 51 = .ok (.getfield 62, 3) := by decide +kernel
theorem dX5_read_54 : decode cX5_read 54 = .ok (.invokevirtual 126, 3) := by decide +kernel
theorem dX5_read_57 : decode cX5_read 57 = .ok (.ireturn, 1) := by decide +kernel
set_option maxRecDepth 20000 in
theorem ggX5_row_X5_isRow : GoodIn wsX5_row wsX5_isRow := goodIn_r _ [8] (by decide +kernel) (by decide +kernel)
set_option maxRecDepth 20000 in
theorem gX5_row_X5_isRow : GoodIn wsX5_row (va_wsS RX5 55 yX5_isRow wsX5_isRow) := goodIn_app (goodIn_of _ (by decide +kernel)) ggX5_row_X5_isRow
set_option maxRecDepth 20000 in
theorem ggX5_row_X1_pegsInRow : GoodIn wsX5_row wsX1_pegsInRow := goodIn_r _ [13, 14, 15, 16, 17, 18, 19, 20, 21, 56, 57, 58, 59] (by decide +kernel) (by decide +kernel)
set_option maxRecDepth 20000 in
theorem gX5_row_X1_pegsInRow : GoodIn wsX5_row (wsV RX5 75 RX1 yX1_pegsInRow wsX1_pegsInRow) := goodIn_app (goodIn_of _ (by decide +kernel)) ggX5_row_X1_pegsInRow
set_option maxRecDepth 20000 in
theorem ggX5_row_X0_wouldJamAt : GoodIn wsX5_row wsX0_wouldJamAt := goodIn_r _ [26, 27, 28, 29, 10, 11, 12, 13, 14, 15, 16, 17, 18, 19, 20, 21, 43, 44, 45, 46, 47, 48, 49, 50, 51, 52, 53, 54, 55, 56, 57, 58, 59] (by decide +kernel) (by decide +kernel)
set_option maxRecDepth 20000 in
theorem gX5_row_X0_wouldJamAt : GoodIn wsX5_row (wsV RX5 129 RX0 yX0_wouldJamAt wsX0_wouldJamAt) := goodIn_app (goodIn_of _ (by decide +kernel)) ggX5_row_X0_wouldJamAt
set_option maxRecDepth 20000 in
theorem ggX5_row_X5_asNumber : GoodIn wsX5_row wsX5_asNumber := goodIn_r _ [32] (by decide +kernel) (by decide +kernel)
set_option maxRecDepth 20000 in
theorem gX5_row_X5_asNumber : GoodIn wsX5_row (va_wsS RX5 132 yX5_asNumber wsX5_asNumber) := goodIn_app (goodIn_of _ (by decide +kernel)) ggX5_row_X5_asNumber
set_option maxRecDepth 20000 in
theorem ggX5_row_J9_floorMod_7cf53 : GoodIn wsX5_row wsJ9_floorMod_7cf53 := goodIn_r _ [36] (by decide +kernel) (by decide +kernel)
set_option maxRecDepth 20000 in
theorem gX5_row_J9_floorMod_7cf53 : GoodIn wsX5_row (va_wsS RX5 136 yJ9_floorMod_7cf53 wsJ9_floorMod_7cf53) := goodIn_app (goodIn_of _ (by decide +kernel)) ggX5_row_J9_floorMod_7cf53
theorem dX5_row_0 : decode cX5_row 0 = .ok (.iload_n 1, 1) := by decide +kernel
theorem dX5_row_1 : decode cX5_row 1 = .ok (.invokestatic 55, 3) := by decide +kernel
theorem dX5_row_4 : decode cX5_row 4 = .ok (.ifCond .ne 5, 3) := by decide +kernel
theorem dX5_row_7 : decode cX5_row 7 = .ok (.iconst (-1), 1) := by decide +kernel
theorem dX5_row_8 : decode cX5_row 8 = .ok (.ireturn, 1) := by decide +kernel
theorem dX5_row_9 : decode cX5_row 9 = .ok (.iload_n 2, 1) := by decide +kernel
theorem dX5_row_10 : decode cX5_row 10 = .ok (.tableswitch 85 0 3 #[30, 43, 55, 67], 30) := by decide +kernel
theorem dX5_row_40 : decode cX5_row 40 = .ok (.aload_n 0, 1) := by decide +kernel
theorem dX5_row_41 : decode cX5_row 41 = .ok (.getfield 10, 3) := by decide +kernel
theorem dX5_row_44 : decode cX5_row 44 = .ok (.getfield 62, 3) := by decide +kernel
theorem dX5_row_47 : decode cX5_row 47 = .ok (.getfield 66, 3) := by decide +kernel
theorem dX5_row_50 : decode cX5_row 50 = .ok (.iload_n 1, 1) := by decide +kernel
theorem dX5_row_51 : decode cX5_row 51 = .ok (.iaload, 1) := by decide +kernel
theorem dX5_row_52 : decode cX5_row 52 = .ok (.ireturn, 1) := by decide +kernel
theorem dX5_row_53 : decode cX5_row 53 = .ok (.aload_n 0, 1) := by decide +kernel
theorem dX5_row_54 : decode cX5_row 54 = .ok (.getfield 10, 3) := by decide +kernel
theorem dX5_row_57 : decode cX5_row 57 = .ok (.getfield 62, 3) := by decide +kernel
theorem dX5_row_60 : decode cX5_row 60 = .ok (.iload_n 1, 1) := by decide +kernel
theorem dX5_row_61 : decode cX5_row 61 = .ok (.invokevirtual 75, 3) := by decide +kernel
theorem dX5_row_64 : decode cX5_row 64 = .ok (.ireturn, 1) := by decide +kernel
theorem dX5_row_65 : decode cX5_row 65 = .ok (.aload_n 0, 1) := by decide +kernel
theorem dX5_row_66 : decode cX5_row 66 = .ok (.getfield 10, 3) := by decide +kernel
theorem dX5_row_69 : decode cX5_row 69 = .ok (.iload_n 1, 1) := by decide +kernel
theorem dX5_row_70 : decode cX5_row 70 = .ok (.invokevirtual 129, 3) := by decide +kernel
theorem dX5_row_73 : decode cX5_row 73 = .ok (.invokestatic 132, 3) := by decide +kernel
theorem dX5_row_76 : decode cX5_row 76 = .ok (.ireturn, 1) := by decide +kernel
theorem dX5_row_77 : decode cX5_row 77 = .ok (.iload_n 1, 1) := by decide +kernel
theorem dX5_row_78 : decode cX5_row 78 = .ok (.aload_n 0, 1) := by decide +kernel
theorem dX5_row_79 : decode cX5_row 79 = .ok (.getfield 10, 3) := by decide +kernel
theorem dX5_row_82 : decode cX5_row 82 = .ok (.getfield 62, 3) := by decide +kernel
theorem dX5_row_85 : decode cX5_row 85 = .ok (.getfield 103, 3) := by decide +kernel
theorem dX5_row_88 : decode cX5_row 88 = .ok (.isub, 1) := by decide +kernel
theorem dX5_row_89 : decode cX5_row 89 = .ok (.bipush 16, 2) := by decide +kernel
theorem dX5_row_91 : decode cX5_row 91 = .ok (.invokestatic 136, 3) := by decide +kernel
theorem dX5_row_94 : decode cX5_row 94 = .ok (.ireturn, 1) := by decide +kernel
theorem dX5_row_95 : decode cX5_row 95 = .ok (.bipush (-2), 2) := by decide +kernel
theorem dX5_row_97 : decode cX5_row 97 = .ok (.ireturn, 1) := by decide +kernel
set_option maxRecDepth 20000 in
theorem ggX5_stamped_X5_isRow : GoodIn wsX5_stamped wsX5_isRow := goodIn_r _ [7] (by decide +kernel) (by decide +kernel)
set_option maxRecDepth 20000 in
theorem gX5_stamped_X5_isRow : GoodIn wsX5_stamped (va_wsS RX5 55 yX5_isRow wsX5_isRow) := goodIn_app (goodIn_of _ (by decide +kernel)) ggX5_stamped_X5_isRow
set_option maxRecDepth 20000 in
theorem ggX5_stamped_X5_isPlace : GoodIn wsX5_stamped wsX5_isPlace := goodIn_r _ [10] (by decide +kernel) (by decide +kernel)
set_option maxRecDepth 20000 in
theorem gX5_stamped_X5_isPlace : GoodIn wsX5_stamped (va_wsS RX5 59 yX5_isPlace wsX5_isPlace) := goodIn_app (goodIn_of _ (by decide +kernel)) ggX5_stamped_X5_isPlace
set_option maxRecDepth 20000 in
theorem ggX5_stamped_X1_hasPeg : GoodIn wsX5_stamped wsX1_hasPeg := goodIn_r _ [15, 16, 36, 37, 38, 39] (by decide +kernel) (by decide +kernel)
set_option maxRecDepth 20000 in
theorem gX5_stamped_X1_hasPeg : GoodIn wsX5_stamped (wsV RX5 142 RX1 yX1_hasPeg wsX1_hasPeg) := goodIn_app (goodIn_of _ (by decide +kernel)) ggX5_stamped_X1_hasPeg
theorem dX5_stamped_0 : decode cX5_stamped 0 = .ok (.iload_n 1, 1) := by decide +kernel
theorem dX5_stamped_1 : decode cX5_stamped 1 = .ok (.invokestatic 55, 3) := by decide +kernel
theorem dX5_stamped_4 : decode cX5_stamped 4 = .ok (.ifCond .eq 10, 3) := by decide +kernel
theorem dX5_stamped_7 : decode cX5_stamped 7 = .ok (.iload_n 2, 1) := by decide +kernel
theorem dX5_stamped_8 : decode cX5_stamped 8 = .ok (.invokestatic 59, 3) := by decide +kernel
theorem dX5_stamped_11 : decode cX5_stamped 11 = .ok (.ifCond .ne 5, 3) := by decide +kernel
theorem dX5_stamped_14 : decode cX5_stamped 14 = .ok (.iconst (-1), 1) := by decide +kernel
theorem dX5_stamped_15 : decode cX5_stamped 15 = .ok (.ireturn, 1) := by decide +kernel
theorem dX5_stamped_16 : decode cX5_stamped 16 = .ok (.aload_n 0, 1) := by decide +kernel
theorem dX5_stamped_17 : decode cX5_stamped 17 = .ok (.getfield 10, 3) := by decide +kernel
theorem dX5_stamped_20 : decode cX5_stamped 20 = .ok (.getfield 62, 3) := by decide +kernel
theorem dX5_stamped_23 : decode cX5_stamped 23 = .ok (.iload_n 1, 1) := by decide +kernel
theorem dX5_stamped_24 : decode cX5_stamped 24 = .ok (.iload_n 2, 1) := by decide +kernel
theorem dX5_stamped_25 : decode cX5_stamped 25 = .ok (.invokevirtual 142, 3) := by decide +kernel
theorem dX5_stamped_28 : decode cX5_stamped 28 = .ok (.ifCond .eq 23, 3) := by decide +kernel
theorem dX5_stamped_31 : decode cX5_stamped 31 = .ok (.aload_n 0, 1) := by decide +kernel
theorem dX5_stamped_32 : decode cX5_stamped 32 = .ok (.getfield 10, 3) := by decide +kernel
theorem dX5_stamped_35 : decode cX5_stamped 35 = .ok (.getfield 62, 3) := by decide +kernel
theorem dX5_stamped_38 : decode cX5_stamped 38 = .ok (.getfield 146, 3) := by decide +kernel
theorem dX5_stamped_41 : decode cX5_stamped 41 = .ok (.iload_n 1, 1) := by decide +kernel
theorem dX5_stamped_42 : decode cX5_stamped 42 = .ok (.bipush 6, 2) := by decide +kernel
theorem dX5_stamped_44 : decode cX5_stamped 44 = .ok (.imul, 1) := by decide +kernel
theorem dX5_stamped_45 : decode cX5_stamped 45 = .ok (.iload_n 2, 1) := by decide +kernel
theorem dX5_stamped_46 : decode cX5_stamped 46 = .ok (.iadd, 1) := by decide +kernel
theorem dX5_stamped_47 : decode cX5_stamped 47 = .ok (.iaload, 1) := by decide +kernel
theorem dX5_stamped_48 : decode cX5_stamped 48 = .ok (.goto 5, 3) := by decide +kernel
theorem dX5_stamped_51 : decode cX5_stamped 51 = .ok (.bipush (-6), 2) := by decide +kernel
theorem dX5_stamped_53 : decode cX5_stamped 53 = .ok (.ireturn, 1) := by decide +kernel
set_option maxRecDepth 20000 in
theorem ggX5_stamp_X5_isPlace : GoodIn wsX5_stamp wsX5_isPlace := goodIn_r _ [11] (by decide +kernel) (by decide +kernel)
set_option maxRecDepth 20000 in
theorem gX5_stamp_X5_isPlace : GoodIn wsX5_stamp (va_wsS RX5 59 yX5_isPlace wsX5_isPlace) := goodIn_app (goodIn_of _ (by decide +kernel)) ggX5_stamp_X5_isPlace
set_option maxRecDepth 20000 in
theorem ggX5_stamp_X1_pegsAtPlace : GoodIn wsX5_stamp wsX1_pegsAtPlace := goodIn_r _ [16, 17, 18, 19, 15, 20, 21, 45, 46, 47, 48] (by decide +kernel) (by decide +kernel)
set_option maxRecDepth 20000 in
theorem gX5_stamp_X1_pegsAtPlace : GoodIn wsX5_stamp (wsV RX5 155 RX1 yX1_pegsAtPlace wsX1_pegsAtPlace) := goodIn_app (goodIn_of _ (by decide +kernel)) ggX5_stamp_X1_pegsAtPlace
theorem dX5_stamp_0 : decode cX5_stamp 0 = .ok (.iload_n 1, 1) := by decide +kernel
theorem dX5_stamp_1 : decode cX5_stamp 1 = .ok (.invokestatic 59, 3) := by decide +kernel
theorem dX5_stamp_4 : decode cX5_stamp 4 = .ok (.ifCond .ne 5, 3) := by decide +kernel
theorem dX5_stamp_7 : decode cX5_stamp 7 = .ok (.iconst (-1), 1) := by decide +kernel
theorem dX5_stamp_8 : decode cX5_stamp 8 = .ok (.ireturn, 1) := by decide +kernel
theorem dX5_stamp_9 : decode cX5_stamp 9 = .ok (.iload_n 2, 1) := by decide +kernel
theorem dX5_stamp_10 : decode cX5_stamp 10 = .ok (.tableswitch 98 0 4 #[34, 47, 60, 73, 85], 34) := by decide +kernel
theorem dX5_stamp_44 : decode cX5_stamp 44 = .ok (.aload_n 0, 1) := by decide +kernel
theorem dX5_stamp_45 : decode cX5_stamp 45 = .ok (.getfield 10, 3) := by decide +kernel
theorem dX5_stamp_48 : decode cX5_stamp 48 = .ok (.getfield 83, 3) := by decide +kernel
theorem dX5_stamp_51 : decode cX5_stamp 51 = .ok (.getfield 87, 3) := by decide +kernel
theorem dX5_stamp_54 : decode cX5_stamp 54 = .ok (.iload_n 1, 1) := by decide +kernel
theorem dX5_stamp_55 : decode cX5_stamp 55 = .ok (.iaload, 1) := by decide +kernel
theorem dX5_stamp_56 : decode cX5_stamp 56 = .ok (.ireturn, 1) := by decide +kernel
theorem dX5_stamp_57 : decode cX5_stamp 57 = .ok (.aload_n 0, 1) := by decide +kernel
theorem dX5_stamp_58 : decode cX5_stamp 58 = .ok (.getfield 10, 3) := by decide +kernel
theorem dX5_stamp_61 : decode cX5_stamp 61 = .ok (.getfield 83, 3) := by decide +kernel
theorem dX5_stamp_64 : decode cX5_stamp 64 = .ok (.getfield 149, 3) := by decide +kernel
theorem dX5_stamp_67 : decode cX5_stamp 67 = .ok (.iload_n 1, 1) := by decide +kernel
theorem dX5_stamp_68 : decode cX5_stamp 68 = .ok (.iaload, 1) := by decide +kernel
theorem dX5_stamp_69 : decode cX5_stamp 69 = .ok (.ireturn, 1) := by decide +kernel
theorem dX5_stamp_70 : decode cX5_stamp 70 = .ok (.aload_n 0, 1) := by decide +kernel
theorem dX5_stamp_71 : decode cX5_stamp 71 = .ok (.getfield 10, 3) := by decide +kernel
theorem dX5_stamp_74 : decode cX5_stamp 74 = .ok (.getfield 83, 3) := by decide +kernel
theorem dX5_stamp_77 : decode cX5_stamp 77 = .ok (.getfield 152, 3) := by decide +kernel
theorem dX5_stamp_80 : decode cX5_stamp 80 = .ok (.iload_n 1, 1) := by decide +kernel
theorem dX5_stamp_81 : decode cX5_stamp 81 = .ok (.iaload, 1) := by decide +kernel
theorem dX5_stamp_82 : decode cX5_stamp 82 = .ok (.ireturn, 1) := by decide +kernel
theorem dX5_stamp_83 : decode cX5_stamp 83 = .ok (.aload_n 0, 1) := by decide +kernel
theorem dX5_stamp_84 : decode cX5_stamp 84 = .ok (.getfield 10, 3) := by decide +kernel
theorem dX5_stamp_87 : decode cX5_stamp 87 = .ok (.getfield 62, 3) := by decide +kernel
theorem dX5_stamp_90 : decode cX5_stamp 90 = .ok (.iload_n 1, 1) := by decide +kernel
theorem dX5_stamp_91 : decode cX5_stamp 91 = .ok (.invokevirtual 155, 3) := by decide +kernel
theorem dX5_stamp_94 : decode cX5_stamp 94 = .ok (.ireturn, 1) := by decide +kernel
theorem dX5_stamp_95 : decode cX5_stamp 95 = .ok (.aload_n 0, 1) := by decide +kernel
theorem dX5_stamp_96 : decode cX5_stamp 96 = .ok (.getfield 10, 3) := by decide +kernel
theorem dX5_stamp_99 : decode cX5_stamp 99 = .ok (.getfield 83, 3) := by decide +kernel
theorem dX5_stamp_102 : decode cX5_stamp 102 = .ok (.getfield 158, 3) := by decide +kernel
theorem dX5_stamp_105 : decode cX5_stamp 105 = .ok (.iload_n 1, 1) := by decide +kernel
theorem dX5_stamp_106 : decode cX5_stamp 106 = .ok (.iaload, 1) := by decide +kernel
theorem dX5_stamp_107 : decode cX5_stamp 107 = .ok (.ireturn, 1) := by decide +kernel
theorem dX5_stamp_108 : decode cX5_stamp 108 = .ok (.bipush (-2), 2) := by decide +kernel
theorem dX5_stamp_110 : decode cX5_stamp 110 = .ok (.ireturn, 1) := by decide +kernel
set_option maxRecDepth 20000 in
theorem ggX5_count_X5_asNumber : GoodIn wsX5_count wsX5_asNumber := goodIn_r _ [24] (by decide +kernel) (by decide +kernel)
set_option maxRecDepth 20000 in
theorem gX5_count_X5_asNumber : GoodIn wsX5_count (va_wsS RX5 132 yX5_asNumber wsX5_asNumber) := goodIn_app (goodIn_of _ (by decide +kernel)) ggX5_count_X5_asNumber
set_option maxRecDepth 20000 in
theorem ggX5_count_X1_allPegs : GoodIn wsX5_count wsX1_allPegs := goodIn_r _ [29, 30, 31, 32, 28, 33, 34, 35, 36, 37, 38, 39, 40, 41, 67, 68, 69, 70] (by decide +kernel) (by decide +kernel)
set_option maxRecDepth 20000 in
theorem gX5_count_X1_allPegs : GoodIn wsX5_count (wsV RX5 126 RX1 yX1_allPegs wsX1_allPegs) := goodIn_app (goodIn_of _ (by decide +kernel)) ggX5_count_X1_allPegs
set_option maxRecDepth 20000 in
theorem ggX5_count_X4_allMarks : GoodIn wsX5_count wsX4_allMarks := goodIn_r _ [46, 47, 76, 77, 78, 79] (by decide +kernel) (by decide +kernel)
set_option maxRecDepth 20000 in
theorem gX5_count_X4_allMarks : GoodIn wsX5_count (wsV RX5 182 RX4 yX4_allMarks wsX4_allMarks) := goodIn_app (goodIn_of _ (by decide +kernel)) ggX5_count_X4_allMarks
theorem dX5_count_0 : decode cX5_count 0 = .ok (.iload_n 1, 1) := by decide +kernel
theorem dX5_count_1 : decode cX5_count 1 = .ok (.ifCond .lt 18, 3) := by decide +kernel
theorem dX5_count_4 : decode cX5_count 4 = .ok (.iload_n 1, 1) := by decide +kernel
theorem dX5_count_5 : decode cX5_count 5 = .ok (.iconst 4, 1) := by decide +kernel
theorem dX5_count_6 : decode cX5_count 6 = .ok (.if_icmp .ge 13, 3) := by decide +kernel
theorem dX5_count_9 : decode cX5_count 9 = .ok (.aload_n 0, 1) := by decide +kernel
theorem dX5_count_10 : decode cX5_count 10 = .ok (.getfield 10, 3) := by decide +kernel
theorem dX5_count_13 : decode cX5_count 13 = .ok (.getfield 52, 3) := by decide +kernel
theorem dX5_count_16 : decode cX5_count 16 = .ok (.iload_n 1, 1) := by decide +kernel
theorem dX5_count_17 : decode cX5_count 17 = .ok (.iaload, 1) := by decide +kernel
theorem dX5_count_18 : decode cX5_count 18 = .ok (.ireturn, 1) := by decide +kernel
theorem dX5_count_19 : decode cX5_count 19 = .ok (.iload_n 1, 1) := by decide +kernel
theorem dX5_count_20 : decode cX5_count 20 = .ok (.tableswitch 226 4 19 #[80, 91, 102, 110, 118, 129, 137, 145, 153, 161, 169, 177, 188, 199, 210, 218], 80) := by decide +kernel
theorem dX5_count_100 : decode cX5_count 100 = .ok (.aload_n 0, 1) := by decide +kernel
theorem dX5_count_101 : decode cX5_count 101 = .ok (.getfield 10, 3) := by decide +kernel
theorem dX5_count_104 : decode cX5_count 104 = .ok (.getfield 62, 3) := by decide +kernel
theorem dX5_count_107 : decode cX5_count 107 = .ok (.getfield 103, 3) := by decide +kernel
theorem dX5_count_110 : decode cX5_count 110 = .ok (.ireturn, 1) := by decide +kernel
theorem dX5_count_111 : decode cX5_count 111 = .ok (.aload_n 0, 1) := by decide +kernel
theorem dX5_count_112 : decode cX5_count 112 = .ok (.getfield 10, 3) := by decide +kernel
theorem dX5_count_115 : decode cX5_count 115 = .ok (.getfield 92, 3) := by decide +kernel
theorem dX5_count_118 : decode cX5_count 118 = .ok (.invokestatic 132, 3) := by decide +kernel
theorem dX5_count_121 : decode cX5_count 121 = .ok (.ireturn, 1) := by decide +kernel
theorem dX5_count_122 : decode cX5_count 122 = .ok (.aload_n 0, 1) := by decide +kernel
theorem dX5_count_123 : decode cX5_count 123 = .ok (.getfield 10, 3) := by decide +kernel
theorem dX5_count_126 : decode cX5_count 126 = .ok (.getfield 79, 3) := by decide +kernel
theorem dX5_count_129 : decode cX5_count 129 = .ok (.ireturn, 1) := by decide +kernel
theorem dX5_count_130 : decode cX5_count 130 = .ok (.aload_n 0, 1) := by decide +kernel
theorem dX5_count_131 : decode cX5_count 131 = .ok (.getfield 10, 3) := by decide +kernel
theorem dX5_count_134 : decode cX5_count 134 = .ok (.getfield 109, 3) := by decide +kernel
theorem dX5_count_137 : decode cX5_count 137 = .ok (.ireturn, 1) := by decide +kernel
theorem dX5_count_138 : decode cX5_count 138 = .ok (.aload_n 0, 1) := by decide +kernel
theorem dX5_count_139 : decode cX5_count 139 = .ok (.getfield 10, 3) := by decide +kernel
theorem dX5_count_142 : decode cX5_count 142 = .ok (.getfield 161, 3) := by decide +kernel
theorem dX5_count_145 : decode cX5_count 145 = .ok (.invokestatic 132, 3) := by decide +kernel
theorem dX5_count_148 : decode cX5_count 148 = .ok (.ireturn, 1) := by decide +kernel
theorem dX5_count_149 : decode cX5_count 149 = .ok (.aload_n 0, 1) := by decide +kernel
theorem dX5_count_150 : decode cX5_count 150 = .ok (.getfield 10, 3) := by decide +kernel
theorem dX5_count_153 : decode cX5_count 153 = .ok (.getfield 164, 3) := by decide +kernel
theorem dX5_count_156 : decode cX5_count 156 = .ok (.ireturn, 1) := by decide +kernel
theorem dX5_count_157 : decode cX5_count 157 = .ok (.aload_n 0, 1) := by decide +kernel
theorem dX5_count_158 : decode cX5_count 158 = .ok (.getfield 10, 3) := by decide +kernel
theorem dX5_count_161 : decode cX5_count 161 = .ok (.getfield 96, 3) := by decide +kernel
theorem dX5_count_164 : decode cX5_count 164 = .ok (.ireturn, 1) := by decide +kernel
theorem dX5_count_165 : decode cX5_count 165 = .ok (.aload_n 0, 1) := by decide +kernel
theorem dX5_count_166 : decode cX5_count 166 = .ok (.getfield 10, 3) := by decide +kernel
theorem dX5_count_169 : decode cX5_count 169 = .ok (.getfield 167, 3) := by decide +kernel
theorem dX5_count_172 : decode cX5_count 172 = .ok (.ireturn, 1) := by decide +kernel
theorem dX5_count_173 : decode cX5_count 173 = .ok (.aload_n 0, 1) := by decide +kernel
theorem dX5_count_174 : decode cX5_count 174 = .ok (.getfield 10, 3) := by decide +kernel
theorem dX5_count_177 : decode cX5_count 177 = .ok (.getfield 170, 3) := by decide +kernel
theorem dX5_count_180 : decode cX5_count 180 = .ok (.ireturn, 1) := by decide +kernel
theorem dX5_count_181 : decode cX5_count 181 = .ok (.aload_n 0, 1) := by decide +kernel
theorem dX5_count_182 : decode cX5_count 182 = .ok (.getfield 10, 3) := by decide +kernel
theorem dX5_count_185 : decode cX5_count 185 = .ok (.getfield 173, 3) := by decide +kernel
theorem dX5_count_188 : decode cX5_count 188 = .ok (.ireturn, 1) := by decide +kernel
theorem dX5_count_189 : decode cX5_count 189 = .ok (.aload_n 0, 1) := by decide +kernel
theorem dX5_count_190 : decode cX5_count 190 = .ok (.getfield 10, 3) := by decide +kernel
theorem dX5_count_193 : decode cX5_count 193 = .ok (.getfield 176, 3) := by decide +kernel
theorem dX5_count_196 : decode cX5_count 196 = .ok (.ireturn, 1) := by decide +kernel
theorem dX5_count_197 : decode cX5_count 197 = .ok (.aload_n 0, 1) := by decide +kernel
theorem dX5_count_198 : decode cX5_count 198 = .ok (.getfield 10, 3) := by decide +kernel
theorem dX5_count_201 : decode cX5_count 201 = .ok (.getfield 62, 3) := by decide +kernel
theorem dX5_count_204 : decode cX5_count 204 = .ok (.invokevirtual 126, 3) := by decide +kernel
theorem dX5_count_207 : decode cX5_count 207 = .ok (.ireturn, 1) := by decide +kernel
theorem dX5_count_208 : decode cX5_count 208 = .ok (.aload_n 0, 1) := by decide +kernel
theorem dX5_count_209 : decode cX5_count 209 = .ok (.getfield 10, 3) := by decide +kernel
theorem dX5_count_212 : decode cX5_count 212 = .ok (.getfield 62, 3) := by decide +kernel
theorem dX5_count_215 : decode cX5_count 215 = .ok (.getfield 179, 3) := by decide +kernel
theorem dX5_count_218 : decode cX5_count 218 = .ok (.ireturn, 1) := by decide +kernel
theorem dX5_count_219 : decode cX5_count 219 = .ok (.aload_n 0, 1) := by decide +kernel
theorem dX5_count_220 : decode cX5_count 220 = .ok (.getfield 10, 3) := by decide +kernel
theorem dX5_count_223 : decode cX5_count 223 = .ok (.getfield 83, 3) := by decide +kernel
theorem dX5_count_226 : decode cX5_count 226 = .ok (.invokevirtual 182, 3) := by decide +kernel
theorem dX5_count_229 : decode cX5_count 229 = .ok (.ireturn, 1) := by decide +kernel
theorem dX5_count_230 : decode cX5_count 230 = .ok (.aload_n 0, 1) := by decide +kernel
theorem dX5_count_231 : decode cX5_count 231 = .ok (.getfield 29, 3) := by decide +kernel
theorem dX5_count_234 : decode cX5_count 234 = .ok (.getfield 185, 3) := by decide +kernel
theorem dX5_count_237 : decode cX5_count 237 = .ok (.ireturn, 1) := by decide +kernel
theorem dX5_count_238 : decode cX5_count 238 = .ok (.aload_n 0, 1) := by decide +kernel
theorem dX5_count_239 : decode cX5_count 239 = .ok (.getfield 22, 3) := by decide +kernel
theorem dX5_count_242 : decode cX5_count 242 = .ok (.getfield 188, 3) := by decide +kernel
theorem dX5_count_245 : decode cX5_count 245 = .ok (.ireturn, 1) := by decide +kernel
theorem dX5_count_246 : decode cX5_count 246 = .ok (.bipush (-2), 2) := by decide +kernel
theorem dX5_count_248 : decode cX5_count 248 = .ok (.ireturn, 1) := by decide +kernel
set_option maxRecDepth 20000 in
theorem ggX5_untilJam_X0_copyFrom : GoodIn wsX5_untilJam wsX0_copyFrom := goodIn_r _ [8, 9, 10, 11, 12, 13, 14, 15, 16, 17, 18, 19, 20, 21, 22, 23, 24, 25, 26, 27, 28, 29, 30, 31, 32, 33, 34, 35, 36, 37, 38, 39, 40, 41, 42, 43, 44, 45, 109, 110, 111, 112, 113, 114, 115, 116, 117, 118, 119, 120, 121, 122, 123, 124, 125, 126, 127, 128, 129] (by decide +kernel) (by decide +kernel)
set_option maxRecDepth 20000 in
theorem gX5_untilJam_X0_copyFrom : GoodIn wsX5_untilJam (wsV RX5 191 RX0 yX0_copyFrom wsX0_copyFrom) := goodIn_app (goodIn_of _ (by decide +kernel)) ggX5_untilJam_X0_copyFrom
set_option maxRecDepth 20000 in
theorem ggX5_untilJam_X0_makeSteps : GoodIn wsX5_untilJam wsX0_makeSteps := goodIn_r _ [49, 50, 51, 52, 7, 53, 16, 14, 54, 25, 55, 21, 20, 9, 56, 57, 58, 59, 60, 61, 62, 29, 63, 31, 64, 65, 66, 67, 68, 69, 70, 71, 72, 73, 74, 75, 76, 77, 78, 18, 19, 15, 79, 80, 81, 82, 39, 83, 41, 44, 43, 84, 85, 86, 87, 33, 35, 88, 89, 90, 91, 34, 92, 93, 94, 95, 96, 97, 98, 24, 17, 22, 23, 99, 100, 101, 102, 109, 110, 111, 112, 113, 114, 115, 116, 117, 118, 119, 120, 121, 122, 123, 124, 125, 126, 127, 128, 129] (by decide +kernel) (by decide +kernel)
set_option maxRecDepth 20000 in
theorem gX5_untilJam_X0_makeSteps : GoodIn wsX5_untilJam (wsV RX5 100 RX0 yX0_makeSteps wsX0_makeSteps) := goodIn_app (goodIn_of _ (by decide +kernel)) ggX5_untilJam_X0_makeSteps
theorem dX5_untilJam_0 : decode cX5_untilJam 0 = .ok (.aload_n 0, 1) := by decide +kernel
theorem dX5_untilJam_1 : decode cX5_untilJam 1 = .ok (.getfield 16, 3) := by decide +kernel
theorem dX5_untilJam_4 : decode cX5_untilJam 4 = .ok (.aload_n 0, 1) := by decide +kernel
theorem dX5_untilJam_5 : decode cX5_untilJam 5 = .ok (.getfield 10, 3) := by decide +kernel
theorem dX5_untilJam_8 : decode cX5_untilJam 8 = .ok (.invokevirtual 191, 3) := by decide +kernel
theorem dX5_untilJam_11 : decode cX5_untilJam 11 = .ok (.aload_n 0, 1) := by decide +kernel
theorem dX5_untilJam_12 : decode cX5_untilJam 12 = .ok (.getfield 16, 3) := by decide +kernel
theorem dX5_untilJam_15 : decode cX5_untilJam 15 = .ok (.sipush 500, 3) := by decide +kernel
theorem dX5_untilJam_18 : decode cX5_untilJam 18 = .ok (.invokevirtual 100, 3) := by decide +kernel
theorem dX5_untilJam_21 : decode cX5_untilJam 21 = .ok (.istore_n 1, 1) := by decide +kernel
theorem dX5_untilJam_22 : decode cX5_untilJam 22 = .ok (.aload_n 0, 1) := by decide +kernel
theorem dX5_untilJam_23 : decode cX5_untilJam 23 = .ok (.getfield 16, 3) := by decide +kernel
theorem dX5_untilJam_26 : decode cX5_untilJam 26 = .ok (.getfield 92, 3) := by decide +kernel
theorem dX5_untilJam_29 : decode cX5_untilJam 29 = .ok (.ifCond .eq 7, 3) := by decide +kernel
theorem dX5_untilJam_32 : decode cX5_untilJam 32 = .ok (.iload_n 1, 1) := by decide +kernel
theorem dX5_untilJam_33 : decode cX5_untilJam 33 = .ok (.goto 5, 3) := by decide +kernel
theorem dX5_untilJam_36 : decode cX5_untilJam 36 = .ok (.bipush (-6), 2) := by decide +kernel
theorem dX5_untilJam_38 : decode cX5_untilJam 38 = .ok (.ireturn, 1) := by decide +kernel
set_option maxRecDepth 20000 in
theorem ggX5_ifStepped_X0_copyFrom : GoodIn wsX5_ifStepped wsX0_copyFrom := goodIn_r _ [11, 12, 13, 14, 15, 16, 17, 18, 19, 20, 21, 22, 23, 24, 25, 26, 27, 28, 29, 30, 31, 32, 33, 34, 35, 36, 37, 38, 39, 40, 41, 42, 43, 44, 45, 46, 47, 48, 116, 117, 118, 119, 120, 121, 122, 123, 124, 125, 126, 127, 128, 129, 130, 131, 132, 133, 134, 135, 136] (by decide +kernel) (by decide +kernel)
set_option maxRecDepth 20000 in
theorem gX5_ifStepped_X0_copyFrom : GoodIn wsX5_ifStepped (wsV RX5 191 RX0 yX0_copyFrom wsX0_copyFrom) := goodIn_app (goodIn_of _ (by decide +kernel)) ggX5_ifStepped_X0_copyFrom
set_option maxRecDepth 20000 in
theorem ggX5_ifStepped_X0_makeSteps : GoodIn wsX5_ifStepped wsX0_makeSteps := goodIn_r _ [52, 53, 54, 55, 10, 56, 19, 17, 57, 28, 58, 24, 23, 12, 59, 60, 61, 62, 63, 64, 65, 32, 66, 34, 67, 68, 69, 70, 71, 72, 73, 74, 75, 76, 77, 78, 79, 80, 81, 21, 22, 18, 82, 83, 84, 85, 42, 86, 44, 47, 46, 87, 88, 89, 90, 36, 38, 91, 92, 93, 94, 37, 95, 96, 97, 98, 99, 100, 101, 27, 20, 25, 26, 102, 103, 104, 105, 116, 117, 118, 119, 120, 121, 122, 123, 124, 125, 126, 127, 128, 129, 130, 131, 132, 133, 134, 135, 136] (by decide +kernel) (by decide +kernel)
set_option maxRecDepth 20000 in
theorem gX5_ifStepped_X0_makeSteps : GoodIn wsX5_ifStepped (wsV RX5 100 RX0 yX0_makeSteps wsX0_makeSteps) := goodIn_app (goodIn_of _ (by decide +kernel)) ggX5_ifStepped_X0_makeSteps
set_option maxRecDepth 20000 in
theorem ggX5_ifStepped_X4_allMarks : GoodIn wsX5_ifStepped wsX4_allMarks := goodIn_r _ [109, 46, 133, 134, 135, 136] (by decide +kernel) (by decide +kernel)
set_option maxRecDepth 20000 in
theorem gX5_ifStepped_X4_allMarks : GoodIn wsX5_ifStepped (wsV RX5 182 RX4 yX4_allMarks wsX4_allMarks) := goodIn_app (goodIn_of _ (by decide +kernel)) ggX5_ifStepped_X4_allMarks
theorem dX5_ifStepped_0 : decode cX5_ifStepped 0 = .ok (.iload_n 1, 1) := by decide +kernel
theorem dX5_ifStepped_1 : decode cX5_ifStepped 1 = .ok (.iconst 1, 1) := by decide +kernel
theorem dX5_ifStepped_2 : decode cX5_ifStepped 2 = .ok (.if_icmp .lt 19, 3) := by decide +kernel
theorem dX5_ifStepped_5 : decode cX5_ifStepped 5 = .ok (.iload_n 1, 1) := by decide +kernel
theorem dX5_ifStepped_6 : decode cX5_ifStepped 6 = .ok (.sipush 500, 3) := by decide +kernel
theorem dX5_ifStepped_9 : decode cX5_ifStepped 9 = .ok (.if_icmp .gt 12, 3) := by decide +kernel
theorem dX5_ifStepped_12 : decode cX5_ifStepped 12 = .ok (.iload_n 2, 1) := by decide +kernel
theorem dX5_ifStepped_13 : decode cX5_ifStepped 13 = .ok (.ifCond .lt 8, 3) := by decide +kernel
theorem dX5_ifStepped_16 : decode cX5_ifStepped 16 = .ok (.iload_n 2, 1) := by decide +kernel
theorem dX5_ifStepped_17 : decode cX5_ifStepped 17 = .ok (.iconst 4, 1) := by decide +kernel
theorem dX5_ifStepped_18 : decode cX5_ifStepped 18 = .ok (.if_icmp .le 6, 3) := by decide +kernel
theorem dX5_ifStepped_21 : decode cX5_ifStepped 21 = .ok (.bipush (-2), 2) := by decide +kernel
theorem dX5_ifStepped_23 : decode cX5_ifStepped 23 = .ok (.ireturn, 1) := by decide +kernel
theorem dX5_ifStepped_24 : decode cX5_ifStepped 24 = .ok (.aload_n 0, 1) := by decide +kernel
theorem dX5_ifStepped_25 : decode cX5_ifStepped 25 = .ok (.getfield 16, 3) := by decide +kernel
theorem dX5_ifStepped_28 : decode cX5_ifStepped 28 = .ok (.aload_n 0, 1) := by decide +kernel
theorem dX5_ifStepped_29 : decode cX5_ifStepped 29 = .ok (.getfield 10, 3) := by decide +kernel
theorem dX5_ifStepped_32 : decode cX5_ifStepped 32 = .ok (.invokevirtual 191, 3) := by decide +kernel
theorem dX5_ifStepped_35 : decode cX5_ifStepped 35 = .ok (.aload_n 0, 1) := by decide +kernel
theorem dX5_ifStepped_36 : decode cX5_ifStepped 36 = .ok (.getfield 16, 3) := by decide +kernel
theorem dX5_ifStepped_39 : decode cX5_ifStepped 39 = .ok (.iload_n 1, 1) := by decide +kernel
theorem dX5_ifStepped_40 : decode cX5_ifStepped 40 = .ok (.invokevirtual 100, 3) := by decide +kernel
theorem dX5_ifStepped_43 : decode cX5_ifStepped 43 = .ok (.istore_n 3, 1) := by decide +kernel
theorem dX5_ifStepped_44 : decode cX5_ifStepped 44 = .ok (.iload_n 2, 1) := by decide +kernel
theorem dX5_ifStepped_45 : decode cX5_ifStepped 45 = .ok (.tableswitch 81 0 3 #[31, 33, 49, 65], 31) := by decide +kernel
theorem dX5_ifStepped_76 : decode cX5_ifStepped 76 = .ok (.iload_n 3, 1) := by decide +kernel
theorem dX5_ifStepped_77 : decode cX5_ifStepped 77 = .ok (.ireturn, 1) := by decide +kernel
theorem dX5_ifStepped_78 : decode cX5_ifStepped 78 = .ok (.aload_n 0, 1) := by decide +kernel
theorem dX5_ifStepped_79 : decode cX5_ifStepped 79 = .ok (.getfield 16, 3) := by decide +kernel
theorem dX5_ifStepped_82 : decode cX5_ifStepped 82 = .ok (.getfield 167, 3) := by decide +kernel
theorem dX5_ifStepped_85 : decode cX5_ifStepped 85 = .ok (.aload_n 0, 1) := by decide +kernel
theorem dX5_ifStepped_86 : decode cX5_ifStepped 86 = .ok (.getfield 10, 3) := by decide +kernel
theorem dX5_ifStepped_89 : decode cX5_ifStepped 89 = .ok (.getfield 167, 3) := by decide +kernel
theorem dX5_ifStepped_92 : decode cX5_ifStepped 92 = .ok (.isub, 1) := by decide +kernel
theorem dX5_ifStepped_93 : decode cX5_ifStepped 93 = .ok (.ireturn, 1) := by decide +kernel
theorem dX5_ifStepped_94 : decode cX5_ifStepped 94 = .ok (.aload_n 0, 1) := by decide +kernel
theorem dX5_ifStepped_95 : decode cX5_ifStepped 95 = .ok (.getfield 16, 3) := by decide +kernel
theorem dX5_ifStepped_98 : decode cX5_ifStepped 98 = .ok (.getfield 170, 3) := by decide +kernel
theorem dX5_ifStepped_101 : decode cX5_ifStepped 101 = .ok (.aload_n 0, 1) := by decide +kernel
theorem dX5_ifStepped_102 : decode cX5_ifStepped 102 = .ok (.getfield 10, 3) := by decide +kernel
theorem dX5_ifStepped_105 : decode cX5_ifStepped 105 = .ok (.getfield 170, 3) := by decide +kernel
theorem dX5_ifStepped_108 : decode cX5_ifStepped 108 = .ok (.isub, 1) := by decide +kernel
theorem dX5_ifStepped_109 : decode cX5_ifStepped 109 = .ok (.ireturn, 1) := by decide +kernel
theorem dX5_ifStepped_110 : decode cX5_ifStepped 110 = .ok (.aload_n 0, 1) := by decide +kernel
theorem dX5_ifStepped_111 : decode cX5_ifStepped 111 = .ok (.getfield 16, 3) := by decide +kernel
theorem dX5_ifStepped_114 : decode cX5_ifStepped 114 = .ok (.getfield 173, 3) := by decide +kernel
theorem dX5_ifStepped_117 : decode cX5_ifStepped 117 = .ok (.aload_n 0, 1) := by decide +kernel
theorem dX5_ifStepped_118 : decode cX5_ifStepped 118 = .ok (.getfield 10, 3) := by decide +kernel
theorem dX5_ifStepped_121 : decode cX5_ifStepped 121 = .ok (.getfield 173, 3) := by decide +kernel
theorem dX5_ifStepped_124 : decode cX5_ifStepped 124 = .ok (.isub, 1) := by decide +kernel
theorem dX5_ifStepped_125 : decode cX5_ifStepped 125 = .ok (.ireturn, 1) := by decide +kernel
theorem dX5_ifStepped_126 : decode cX5_ifStepped 126 = .ok (.aload_n 0, 1) := by decide +kernel
theorem dX5_ifStepped_127 : decode cX5_ifStepped 127 = .ok (.getfield 16, 3) := by decide +kernel
theorem dX5_ifStepped_130 : decode cX5_ifStepped 130 = .ok (.getfield 83, 3) := by decide +kernel
theorem dX5_ifStepped_133 : decode cX5_ifStepped 133 = .ok (.invokevirtual 182, 3) := by decide +kernel
theorem dX5_ifStepped_136 : decode cX5_ifStepped 136 = .ok (.aload_n 0, 1) := by decide +kernel
theorem dX5_ifStepped_137 : decode cX5_ifStepped 137 = .ok (.getfield 10, 3) := by decide +kernel
theorem dX5_ifStepped_140 : decode cX5_ifStepped 140 = .ok (.getfield 83, 3) := by decide +kernel
theorem dX5_ifStepped_143 : decode cX5_ifStepped 143 = .ok (.invokevirtual 182, 3) := by decide +kernel
theorem dX5_ifStepped_146 : decode cX5_ifStepped 146 = .ok (.isub, 1) := by decide +kernel
theorem dX5_ifStepped_147 : decode cX5_ifStepped 147 = .ok (.ireturn, 1) := by decide +kernel
set_option maxRecDepth 20000 in
theorem ggX5_bestOut_X5_ifStepped : GoodIn wsX5_bestOut wsX5_ifStepped := goodIn_r _ [8, 9, 1, 10, 11, 12, 13, 14, 15, 16, 17, 18, 19, 20, 21, 22, 23, 24, 25, 26, 27, 28, 29, 30, 31, 32, 33, 34, 35, 36, 37, 38, 39, 40, 41, 42, 43, 44, 45, 46, 47, 48, 49, 50, 51, 52, 53, 54, 55, 56, 57, 58, 59, 60, 61, 62, 63, 64, 65, 66, 67, 68, 69, 70, 71, 72, 73, 74, 75, 76, 77, 78, 79, 80, 81, 82, 83, 84, 85, 86, 87, 88, 89, 90, 91, 92, 93, 94, 95, 96, 97, 98, 99, 100, 101, 102, 103, 104, 105, 106, 107, 108, 109, 110, 111, 112, 113, 114, 115, 116, 130, 131, 132, 133, 134, 135, 136, 137, 138, 139, 140, 141, 142, 143, 144, 145, 146, 147, 148, 149, 150, 151, 152, 153, 154, 155, 156] (by decide +kernel) (by decide +kernel)
set_option maxRecDepth 20000 in
theorem gX5_bestOut_X5_ifStepped : GoodIn wsX5_bestOut (wsV RX5 194 RX5 yX5_ifStepped wsX5_ifStepped) := goodIn_app (goodIn_of _ (by decide +kernel)) ggX5_bestOut_X5_ifStepped
set_option maxRecDepth 20000 in
theorem ggX5_bestOut_X1_hasPeg : GoodIn wsX5_bestOut wsX1_hasPeg := goodIn_r _ [120, 41, 149, 150, 151, 152] (by decide +kernel) (by decide +kernel)
set_option maxRecDepth 20000 in
theorem gX5_bestOut_X1_hasPeg : GoodIn wsX5_bestOut (wsV RX5 142 RX1 yX1_hasPeg wsX1_hasPeg) := goodIn_app (goodIn_of _ (by decide +kernel)) ggX5_bestOut_X1_hasPeg
set_option maxRecDepth 20000 in
theorem ggX5_bestOut_X5_rightWithRow : GoodIn wsX5_bestOut wsX5_rightWithRow := goodIn_r _ [124, 9, 1, 2, 10, 14, 15, 16, 17, 18, 19, 20, 21, 22, 23, 24, 25, 26, 27, 28, 29, 30, 31, 32, 33, 34, 35, 36, 37, 38, 39, 40, 41, 42, 43, 44, 45, 46, 47, 48, 49, 50, 51, 52, 53, 54, 55, 125, 126, 127, 128, 129, 118, 119, 120, 56, 57, 58, 59, 60, 61, 62, 63, 64, 65, 66, 67, 68, 69, 70, 71, 72, 73, 74, 75, 76, 77, 78, 79, 80, 81, 82, 83, 84, 85, 86, 87, 88, 89, 90, 91, 92, 93, 94, 95, 96, 97, 98, 99, 100, 101, 102, 103, 104, 105, 106, 107, 108, 109, 110, 111, 112, 130, 131, 132, 133, 134, 135, 136, 137, 138, 139, 140, 141, 142, 143, 144, 145, 146, 147, 148, 149, 150, 151, 152, 153, 154, 155, 156] (by decide +kernel) (by decide +kernel)
set_option maxRecDepth 20000 in
theorem gX5_bestOut_X5_rightWithRow : GoodIn wsX5_bestOut (wsV RX5 197 RX5 yX5_rightWithRow wsX5_rightWithRow) := goodIn_app (goodIn_of _ (by decide +kernel)) ggX5_bestOut_X5_rightWithRow
theorem dX5_bestOut_0 : decode cX5_bestOut 0 = .ok (.bipush (-6), 2) := by decide +kernel
theorem dX5_bestOut_2 : decode cX5_bestOut 2 = .ok (.istore_n 1, 1) := by decide +kernel
theorem dX5_bestOut_3 : decode cX5_bestOut 3 = .ok (.aload_n 0, 1) := by decide +kernel
theorem dX5_bestOut_4 : decode cX5_bestOut 4 = .ok (.bipush 64, 2) := by decide +kernel
theorem dX5_bestOut_6 : decode cX5_bestOut 6 = .ok (.iconst 1, 1) := by decide +kernel
theorem dX5_bestOut_7 : decode cX5_bestOut 7 = .ok (.invokevirtual 194, 3) := by decide +kernel
theorem dX5_bestOut_10 : decode cX5_bestOut 10 = .ok (.istore_n 2, 1) := by decide +kernel
theorem dX5_bestOut_11 : decode cX5_bestOut 11 = .ok (.iconst 0, 1) := by decide +kernel
theorem dX5_bestOut_12 : decode cX5_bestOut 12 = .ok (.istore_n 3, 1) := by decide +kernel
theorem dX5_bestOut_13 : decode cX5_bestOut 13 = .ok (.iload_n 3, 1) := by decide +kernel
theorem dX5_bestOut_14 : decode cX5_bestOut 14 = .ok (.bipush 16, 2) := by decide +kernel
theorem dX5_bestOut_16 : decode cX5_bestOut 16 = .ok (.if_icmp .ge 82, 3) := by decide +kernel
theorem dX5_bestOut_19 : decode cX5_bestOut 19 = .ok (.iconst 0, 1) := by decide +kernel
theorem dX5_bestOut_20 : decode cX5_bestOut 20 = .ok (.istore 4, 2) := by decide +kernel
theorem dX5_bestOut_22 : decode cX5_bestOut 22 = .ok (.iload 4, 2) := by decide +kernel
theorem dX5_bestOut_24 : decode cX5_bestOut 24 = .ok (.bipush 6, 2) := by decide +kernel
theorem dX5_bestOut_26 : decode cX5_bestOut 26 = .ok (.if_icmp .ge 66, 3) := by decide +kernel
theorem dX5_bestOut_29 : decode cX5_bestOut 29 = .ok (.aload_n 0, 1) := by decide +kernel
theorem dX5_bestOut_30 : decode cX5_bestOut 30 = .ok (.getfield 10, 3) := by decide +kernel
theorem dX5_bestOut_33 : decode cX5_bestOut 33 = .ok (.getfield 62, 3) := by decide +kernel
theorem dX5_bestOut_36 : decode cX5_bestOut 36 = .ok (.iload_n 3, 1) := by decide +kernel
theorem dX5_bestOut_37 : decode cX5_bestOut 37 = .ok (.iload 4, 2) := by decide +kernel
theorem dX5_bestOut_39 : decode cX5_bestOut 39 = .ok (.invokevirtual 142, 3) := by decide +kernel
theorem dX5_bestOut_42 : decode cX5_bestOut 42 = .ok (.ifCond .eq 44, 3) := by decide +kernel
theorem dX5_bestOut_45 : decode cX5_bestOut 45 = .ok (.aload_n 0, 1) := by decide +kernel
theorem dX5_bestOut_46 : decode cX5_bestOut 46 = .ok (.iload_n 3, 1) := by decide +kernel
theorem dX5_bestOut_47 : decode cX5_bestOut 47 = .ok (.aload_n 0, 1) := by decide +kernel
theorem dX5_bestOut_48 : decode cX5_bestOut 48 = .ok (.getfield 10, 3) := by decide +kernel
theorem dX5_bestOut_51 : decode cX5_bestOut 51 = .ok (.getfield 62, 3) := by decide +kernel
theorem dX5_bestOut_54 : decode cX5_bestOut 54 = .ok (.getfield 66, 3) := by decide +kernel
theorem dX5_bestOut_57 : decode cX5_bestOut 57 = .ok (.iload_n 3, 1) := by decide +kernel
theorem dX5_bestOut_58 : decode cX5_bestOut 58 = .ok (.iaload, 1) := by decide +kernel
theorem dX5_bestOut_59 : decode cX5_bestOut 59 = .ok (.iconst 1, 1) := by decide +kernel
theorem dX5_bestOut_60 : decode cX5_bestOut 60 = .ok (.iload 4, 2) := by decide +kernel
theorem dX5_bestOut_62 : decode cX5_bestOut 62 = .ok (.ishl, 1) := by decide +kernel
theorem dX5_bestOut_63 : decode cX5_bestOut 63 = .ok (.ixor, 1) := by decide +kernel
theorem dX5_bestOut_64 : decode cX5_bestOut 64 = .ok (.invokevirtual 197, 3) := by decide +kernel
theorem dX5_bestOut_67 : decode cX5_bestOut 67 = .ok (.istore 5, 2) := by decide +kernel
theorem dX5_bestOut_69 : decode cX5_bestOut 69 = .ok (.iload 5, 2) := by decide +kernel
theorem dX5_bestOut_71 : decode cX5_bestOut 71 = .ok (.iload_n 2, 1) := by decide +kernel
theorem dX5_bestOut_72 : decode cX5_bestOut 72 = .ok (.if_icmp .le 14, 3) := by decide +kernel
theorem dX5_bestOut_75 : decode cX5_bestOut 75 = .ok (.iload 5, 2) := by decide +kernel
theorem dX5_bestOut_77 : decode cX5_bestOut 77 = .ok (.istore_n 2, 1) := by decide +kernel
theorem dX5_bestOut_78 : decode cX5_bestOut 78 = .ok (.iload_n 3, 1) := by decide +kernel
theorem dX5_bestOut_79 : decode cX5_bestOut 79 = .ok (.bipush 6, 2) := by decide +kernel
theorem dX5_bestOut_81 : decode cX5_bestOut 81 = .ok (.imul, 1) := by decide +kernel
theorem dX5_bestOut_82 : decode cX5_bestOut 82 = .ok (.iload 4, 2) := by decide +kernel
theorem dX5_bestOut_84 : decode cX5_bestOut 84 = .ok (.iadd, 1) := by decide +kernel
theorem dX5_bestOut_85 : decode cX5_bestOut 85 = .ok (.istore_n 1, 1) := by decide +kernel
theorem dX5_bestOut_86 : decode cX5_bestOut 86 = .ok (.iinc 4 1, 3) := by decide +kernel
theorem dX5_bestOut_89 : decode cX5_bestOut 89 = .ok (.goto (-67), 3) := by decide +kernel
theorem dX5_bestOut_92 : decode cX5_bestOut 92 = .ok (.iinc 3 1, 3) := by decide +kernel
theorem dX5_bestOut_95 : decode cX5_bestOut 95 = .ok (.goto (-82), 3) := by decide +kernel
theorem dX5_bestOut_98 : decode cX5_bestOut 98 = .ok (.iload_n 1, 1) := by decide +kernel
theorem dX5_bestOut_99 : decode cX5_bestOut 99 = .ok (.ireturn, 1) := by decide +kernel
set_option maxRecDepth 20000 in
theorem ggX5_nextStamps_X5_nextStampsByStep : GoodIn wsX5_nextStamps wsX5_nextStampsByStep := goodIn_r _ [5, 6, 7, 8, 9, 10, 11, 12, 13, 14, 15, 16, 17, 18, 28, 29, 30, 31, 32, 33, 34, 35, 36, 37, 38, 39, 40, 41, 42, 43, 44, 45, 46, 47, 48, 49, 50] (by decide +kernel) (by decide +kernel)
set_option maxRecDepth 20000 in
theorem gX5_nextStamps_X5_nextStampsByStep : GoodIn wsX5_nextStamps (wsV RX5 200 RX5 yX5_nextStampsByStep wsX5_nextStampsByStep) := goodIn_app (goodIn_of _ (by decide +kernel)) ggX5_nextStamps_X5_nextStampsByStep
set_option maxRecDepth 20000 in
theorem ggX5_nextStamps_X5_nextStampsByPegs : GoodIn wsX5_nextStamps wsX5_nextStampsByPegs := goodIn_r _ [22, 6, 9, 7, 23, 8, 24, 25, 26, 27, 28, 29, 30, 31, 32, 33, 34, 35, 36, 37, 38, 39, 40, 41, 42, 43, 44, 45, 46, 47, 48, 49, 50] (by decide +kernel) (by decide +kernel)
set_option maxRecDepth 20000 in
theorem gX5_nextStamps_X5_nextStampsByPegs : GoodIn wsX5_nextStamps (wsV RX5 203 RX5 yX5_nextStampsByPegs wsX5_nextStampsByPegs) := goodIn_app (goodIn_of _ (by decide +kernel)) ggX5_nextStamps_X5_nextStampsByPegs
theorem dX5_nextStamps_0 : decode cX5_nextStamps 0 = .ok (.iload_n 1, 1) := by decide +kernel
theorem dX5_nextStamps_1 : decode cX5_nextStamps 1 = .ok (.ifCond .ne 8, 3) := by decide +kernel
theorem dX5_nextStamps_4 : decode cX5_nextStamps 4 = .ok (.aload_n 0, 1) := by decide +kernel
theorem dX5_nextStamps_5 : decode cX5_nextStamps 5 = .ok (.invokevirtual 200, 3) := by decide +kernel
theorem dX5_nextStamps_8 : decode cX5_nextStamps 8 = .ok (.ireturn, 1) := by decide +kernel
theorem dX5_nextStamps_9 : decode cX5_nextStamps 9 = .ok (.iload_n 1, 1) := by decide +kernel
theorem dX5_nextStamps_10 : decode cX5_nextStamps 10 = .ok (.iconst 1, 1) := by decide +kernel
theorem dX5_nextStamps_11 : decode cX5_nextStamps 11 = .ok (.if_icmp .ne 10, 3) := by decide +kernel
theorem dX5_nextStamps_14 : decode cX5_nextStamps 14 = .ok (.aload_n 0, 1) := by decide +kernel
theorem dX5_nextStamps_15 : decode cX5_nextStamps 15 = .ok (.invokevirtual 203, 3) := by decide +kernel
theorem dX5_nextStamps_18 : decode cX5_nextStamps 18 = .ok (.goto 5, 3) := by decide +kernel
theorem dX5_nextStamps_21 : decode cX5_nextStamps 21 = .ok (.bipush (-2), 2) := by decide +kernel
theorem dX5_nextStamps_23 : decode cX5_nextStamps 23 = .ok (.ireturn, 1) := by decide +kernel
set_option maxRecDepth 20000 in
theorem ggX5_put_X3_charactersIn : GoodIn wsX5_put wsX3_charactersIn := goodIn_r _ [6, 7] (by decide +kernel) (by decide +kernel)
set_option maxRecDepth 20000 in
theorem gX5_put_X3_charactersIn : GoodIn wsX5_put (va_wsS RX5 206 yX3_charactersIn wsX3_charactersIn) := goodIn_app (goodIn_of _ (by decide +kernel)) ggX5_put_X3_charactersIn
set_option maxRecDepth 20000 in
theorem ggX5_put_X3_append : GoodIn wsX5_put wsX3_append := goodIn_r _ [11, 12, 13, 7, 20, 21] (by decide +kernel) (by decide +kernel)
set_option maxRecDepth 20000 in
theorem gX5_put_X3_append : GoodIn wsX5_put (wsV RX5 210 RX3 yX3_append wsX3_append) := goodIn_app (goodIn_of _ (by decide +kernel)) ggX5_put_X3_append
theorem dX5_put_0 : decode cX5_put 0 = .ok (.lload_n 1, 1) := by decide +kernel
theorem dX5_put_1 : decode cX5_put 1 = .ok (.invokestatic 206, 3) := by decide +kernel
theorem dX5_put_4 : decode cX5_put 4 = .ok (.istore_n 3, 1) := by decide +kernel
theorem dX5_put_5 : decode cX5_put 5 = .ok (.iload_n 3, 1) := by decide +kernel
theorem dX5_put_6 : decode cX5_put 6 = .ok (.ifCond .ne 6, 3) := by decide +kernel
theorem dX5_put_9 : decode cX5_put 9 = .ok (.bipush (-2), 2) := by decide +kernel
theorem dX5_put_11 : decode cX5_put 11 = .ok (.ireturn, 1) := by decide +kernel
theorem dX5_put_12 : decode cX5_put 12 = .ok (.aload_n 0, 1) := by decide +kernel
theorem dX5_put_13 : decode cX5_put 13 = .ok (.getfield 29, 3) := by decide +kernel
theorem dX5_put_16 : decode cX5_put 16 = .ok (.getfield 185, 3) := by decide +kernel
theorem dX5_put_19 : decode cX5_put 19 = .ok (.iload_n 3, 1) := by decide +kernel
theorem dX5_put_20 : decode cX5_put 20 = .ok (.iadd, 1) := by decide +kernel
theorem dX5_put_21 : decode cX5_put 21 = .ok (.bipush 60, 2) := by decide +kernel
theorem dX5_put_23 : decode cX5_put 23 = .ok (.if_icmp .le 6, 3) := by decide +kernel
theorem dX5_put_26 : decode cX5_put 26 = .ok (.bipush (-4), 2) := by decide +kernel
theorem dX5_put_28 : decode cX5_put 28 = .ok (.ireturn, 1) := by decide +kernel
theorem dX5_put_29 : decode cX5_put 29 = .ok (.aload_n 0, 1) := by decide +kernel
theorem dX5_put_30 : decode cX5_put 30 = .ok (.getfield 29, 3) := by decide +kernel
theorem dX5_put_33 : decode cX5_put 33 = .ok (.lload_n 1, 1) := by decide +kernel
theorem dX5_put_34 : decode cX5_put 34 = .ok (.iload_n 3, 1) := by decide +kernel
theorem dX5_put_35 : decode cX5_put 35 = .ok (.invokevirtual 210, 3) := by decide +kernel
theorem dX5_put_38 : decode cX5_put 38 = .ok (.aload_n 0, 1) := by decide +kernel
theorem dX5_put_39 : decode cX5_put 39 = .ok (.getfield 29, 3) := by decide +kernel
theorem dX5_put_42 : decode cX5_put 42 = .ok (.getfield 185, 3) := by decide +kernel
theorem dX5_put_45 : decode cX5_put 45 = .ok (.ireturn, 1) := by decide +kernel
set_option maxRecDepth 20000 in
theorem ggX5_wipe_X3_empty : GoodIn wsX5_wipe wsX3_empty := goodIn_r _ [7, 8, 15, 16] (by decide +kernel) (by decide +kernel)
set_option maxRecDepth 20000 in
theorem gX5_wipe_X3_empty : GoodIn wsX5_wipe (wsV RX5 123 RX3 yX3_empty wsX3_empty) := goodIn_app (goodIn_of _ (by decide +kernel)) ggX5_wipe_X3_empty
theorem dX5_wipe_0 : decode cX5_wipe 0 = .ok (.aload_n 0, 1) := by decide +kernel
theorem dX5_wipe_1 : decode cX5_wipe 1 = .ok (.getfield 29, 3) := by decide +kernel
theorem dX5_wipe_4 : decode cX5_wipe 4 = .ok (.getfield 185, 3) := by decide +kernel
theorem dX5_wipe_7 : decode cX5_wipe 7 = .ok (.istore_n 1, 1) := by decide +kernel
theorem dX5_wipe_8 : decode cX5_wipe 8 = .ok (.aload_n 0, 1) := by decide +kernel
theorem dX5_wipe_9 : decode cX5_wipe 9 = .ok (.getfield 29, 3) := by decide +kernel
theorem dX5_wipe_12 : decode cX5_wipe 12 = .ok (.invokevirtual 123, 3) := by decide +kernel
theorem dX5_wipe_15 : decode cX5_wipe 15 = .ok (.iload_n 1, 1) := by decide +kernel
theorem dX5_wipe_16 : decode cX5_wipe 16 = .ok (.ireturn, 1) := by decide +kernel
set_option maxRecDepth 20000 in
theorem ggX5_fault_X3_firstFault : GoodIn wsX5_fault wsX3_firstFault := goodIn_r _ [6, 7, 8, 9, 10, 5, 11, 12, 13, 14, 15, 16, 17, 24, 25] (by decide +kernel) (by decide +kernel)
set_option maxRecDepth 20000 in
theorem gX5_fault_X3_firstFault : GoodIn wsX5_fault (wsV RX5 115 RX3 yX3_firstFault wsX3_firstFault) := goodIn_app (goodIn_of _ (by decide +kernel)) ggX5_fault_X3_firstFault
theorem dX5_fault_0 : decode cX5_fault 0 = .ok (.aload_n 0, 1) := by decide +kernel
theorem dX5_fault_1 : decode cX5_fault 1 = .ok (.getfield 29, 3) := by decide +kernel
theorem dX5_fault_4 : decode cX5_fault 4 = .ok (.invokevirtual 115, 3) := by decide +kernel
theorem dX5_fault_7 : decode cX5_fault 7 = .ok (.ireturn, 1) := by decide +kernel
set_option maxRecDepth 20000 in
theorem ggX5_undo_X2_takeBack : GoodIn wsX5_undo wsX2_takeBack := goodIn_r _ [8, 9, 10, 11, 12, 13, 14, 15, 16, 17, 18, 19, 20, 21, 22, 23, 24, 25, 26, 27, 28, 29, 30, 31, 32, 33, 34, 35, 36, 37, 38, 39, 40, 41, 42, 43, 44, 45, 46, 47, 48, 49, 50, 51, 52, 53, 60, 61, 62, 63, 64, 65, 66, 67, 68, 69, 70, 71, 72, 73, 74, 75, 76, 77, 78, 79, 80, 81, 82, 83] (by decide +kernel) (by decide +kernel)
set_option maxRecDepth 20000 in
theorem gX5_undo_X2_takeBack : GoodIn wsX5_undo (wsV RX5 214 RX2 yX2_takeBack wsX2_takeBack) := goodIn_app (goodIn_of _ (by decide +kernel)) ggX5_undo_X2_takeBack
theorem dX5_undo_0 : decode cX5_undo 0 = .ok (.aload_n 0, 1) := by decide +kernel
theorem dX5_undo_1 : decode cX5_undo 1 = .ok (.getfield 22, 3) := by decide +kernel
theorem dX5_undo_4 : decode cX5_undo 4 = .ok (.getfield 188, 3) := by decide +kernel
theorem dX5_undo_7 : decode cX5_undo 7 = .ok (.ifCond .ne 6, 3) := by decide +kernel
theorem dX5_undo_10 : decode cX5_undo 10 = .ok (.bipush (-5), 2) := by decide +kernel
theorem dX5_undo_12 : decode cX5_undo 12 = .ok (.ireturn, 1) := by decide +kernel
theorem dX5_undo_13 : decode cX5_undo 13 = .ok (.aload_n 0, 1) := by decide +kernel
theorem dX5_undo_14 : decode cX5_undo 14 = .ok (.getfield 22, 3) := by decide +kernel
theorem dX5_undo_17 : decode cX5_undo 17 = .ok (.aload_n 0, 1) := by decide +kernel
theorem dX5_undo_18 : decode cX5_undo 18 = .ok (.getfield 10, 3) := by decide +kernel
theorem dX5_undo_21 : decode cX5_undo 21 = .ok (.invokevirtual 214, 3) := by decide +kernel
theorem dX5_undo_24 : decode cX5_undo 24 = .ok (.aload_n 0, 1) := by decide +kernel
theorem dX5_undo_25 : decode cX5_undo 25 = .ok (.getfield 22, 3) := by decide +kernel
theorem dX5_undo_28 : decode cX5_undo 28 = .ok (.getfield 188, 3) := by decide +kernel
theorem dX5_undo_31 : decode cX5_undo 31 = .ok (.ireturn, 1) := by decide +kernel
set_option maxRecDepth 20000 in
theorem ggX5_save_X0_copyFrom : GoodIn wsX5_save wsX0_copyFrom := goodIn_r _ [9, 10, 11, 12, 13, 14, 15, 16, 17, 18, 19, 20, 21, 22, 23, 24, 25, 26, 27, 28, 29, 30, 31, 32, 33, 34, 35, 36, 37, 38, 39, 40, 41, 42, 43, 44, 45, 46, 68, 69, 70, 71, 72, 73, 74, 75, 76, 77, 78, 79, 80, 81, 82, 83, 84, 85, 86, 87, 88] (by decide +kernel) (by decide +kernel)
set_option maxRecDepth 20000 in
theorem gX5_save_X0_copyFrom : GoodIn wsX5_save (wsV RX5 191 RX0 yX0_copyFrom wsX0_copyFrom) := goodIn_app (goodIn_of _ (by decide +kernel)) ggX5_save_X0_copyFrom
set_option maxRecDepth 20000 in
theorem ggX5_save_X1_allPegs : GoodIn wsX5_save wsX1_allPegs := goodIn_r _ [50, 51, 52, 53, 30, 54, 32, 55, 56, 57, 58, 59, 60, 61, 81, 82, 83, 84] (by decide +kernel) (by decide +kernel)
set_option maxRecDepth 20000 in
theorem gX5_save_X1_allPegs : GoodIn wsX5_save (wsV RX5 126 RX1 yX1_allPegs wsX1_allPegs) := goodIn_app (goodIn_of _ (by decide +kernel)) ggX5_save_X1_allPegs
theorem dX5_save_0 : decode cX5_save 0 = .ok (.iload_n 1, 1) := by decide +kernel
theorem dX5_save_1 : decode cX5_save 1 = .ok (.ifCond .lt 8, 3) := by decide +kernel
theorem dX5_save_4 : decode cX5_save 4 = .ok (.iload_n 1, 1) := by decide +kernel
theorem dX5_save_5 : decode cX5_save 5 = .ok (.iconst 2, 1) := by decide +kernel
theorem dX5_save_6 : decode cX5_save 6 = .ok (.if_icmp .lt 6, 3) := by decide +kernel
theorem dX5_save_9 : decode cX5_save 9 = .ok (.bipush (-2), 2) := by decide +kernel
theorem dX5_save_11 : decode cX5_save 11 = .ok (.ireturn, 1) := by decide +kernel
theorem dX5_save_12 : decode cX5_save 12 = .ok (.aload_n 0, 1) := by decide +kernel
theorem dX5_save_13 : decode cX5_save 13 = .ok (.getfield 33, 3) := by decide +kernel
theorem dX5_save_16 : decode cX5_save 16 = .ok (.iload_n 1, 1) := by decide +kernel
theorem dX5_save_17 : decode cX5_save 17 = .ok (.aaload, 1) := by decide +kernel
theorem dX5_save_18 : decode cX5_save 18 = .ok (.aload_n 0, 1) := by decide +kernel
theorem dX5_save_19 : decode cX5_save 19 = .ok (.getfield 10, 3) := by decide +kernel
theorem dX5_save_22 : decode cX5_save 22 = .ok (.invokevirtual 191, 3) := by decide +kernel
theorem dX5_save_25 : decode cX5_save 25 = .ok (.aload_n 0, 1) := by decide +kernel
theorem dX5_save_26 : decode cX5_save 26 = .ok (.getfield 37, 3) := by decide +kernel
theorem dX5_save_29 : decode cX5_save 29 = .ok (.iload_n 1, 1) := by decide +kernel
theorem dX5_save_30 : decode cX5_save 30 = .ok (.iconst 1, 1) := by decide +kernel
theorem dX5_save_31 : decode cX5_save 31 = .ok (.bastore, 1) := by decide +kernel
theorem dX5_save_32 : decode cX5_save 32 = .ok (.aload_n 0, 1) := by decide +kernel
theorem dX5_save_33 : decode cX5_save 33 = .ok (.getfield 10, 3) := by decide +kernel
theorem dX5_save_36 : decode cX5_save 36 = .ok (.getfield 62, 3) := by decide +kernel
theorem dX5_save_39 : decode cX5_save 39 = .ok (.invokevirtual 126, 3) := by decide +kernel
theorem dX5_save_42 : decode cX5_save 42 = .ok (.ireturn, 1) := by decide +kernel
set_option maxRecDepth 20000 in
theorem ggX5_restore_X2_keep : GoodIn wsX5_restore wsX2_keep := goodIn_r _ [10, 11, 12, 13, 14, 15, 16, 17, 18, 19, 20, 21, 22, 23, 24, 25, 26, 27, 28, 29, 30, 31, 32, 33, 34, 35, 36, 37, 38, 39, 40, 41, 42, 43, 44, 45, 46, 47, 48, 49, 50, 51, 52, 53, 54, 55, 56, 57, 58, 59, 95, 96, 97, 82, 83, 84, 85, 86, 87, 88, 89, 90, 91, 92, 93, 94, 98, 99, 100, 101, 102, 103, 104, 105] (by decide +kernel) (by decide +kernel)
set_option maxRecDepth 20000 in
theorem gX5_restore_X2_keep : GoodIn wsX5_restore (wsV RX5 48 RX2 yX2_keep wsX2_keep) := goodIn_app (goodIn_of _ (by decide +kernel)) ggX5_restore_X2_keep
set_option maxRecDepth 20000 in
theorem ggX5_restore_X0_copyFrom : GoodIn wsX5_restore wsX0_copyFrom := goodIn_r _ [22, 23, 24, 25, 26, 27, 28, 29, 30, 31, 32, 33, 34, 35, 36, 37, 38, 39, 40, 41, 42, 43, 44, 45, 46, 47, 48, 49, 50, 51, 52, 53, 54, 55, 56, 57, 58, 59, 82, 83, 84, 85, 86, 87, 88, 89, 90, 91, 92, 93, 94, 98, 99, 100, 101, 102, 103, 104, 105] (by decide +kernel) (by decide +kernel)
set_option maxRecDepth 20000 in
theorem gX5_restore_X0_copyFrom : GoodIn wsX5_restore (wsV RX5 191 RX0 yX0_copyFrom wsX0_copyFrom) := goodIn_app (goodIn_of _ (by decide +kernel)) ggX5_restore_X0_copyFrom
set_option maxRecDepth 20000 in
theorem ggX5_restore_X1_allPegs : GoodIn wsX5_restore wsX1_allPegs := goodIn_r _ [64, 65, 66, 67, 43, 68, 45, 69, 70, 71, 72, 73, 74, 75, 98, 99, 100, 101] (by decide +kernel) (by decide +kernel)
set_option maxRecDepth 20000 in
theorem gX5_restore_X1_allPegs : GoodIn wsX5_restore (wsV RX5 126 RX1 yX1_allPegs wsX1_allPegs) := goodIn_app (goodIn_of _ (by decide +kernel)) ggX5_restore_X1_allPegs
theorem dX5_restore_0 : decode cX5_restore 0 = .ok (.iload_n 1, 1) := by decide +kernel
theorem dX5_restore_1 : decode cX5_restore 1 = .ok (.ifCond .lt 8, 3) := by decide +kernel
theorem dX5_restore_4 : decode cX5_restore 4 = .ok (.iload_n 1, 1) := by decide +kernel
theorem dX5_restore_5 : decode cX5_restore 5 = .ok (.iconst 2, 1) := by decide +kernel
theorem dX5_restore_6 : decode cX5_restore 6 = .ok (.if_icmp .lt 6, 3) := by decide +kernel
theorem dX5_restore_9 : decode cX5_restore 9 = .ok (.bipush (-2), 2) := by decide +kernel
theorem dX5_restore_11 : decode cX5_restore 11 = .ok (.ireturn, 1) := by decide +kernel
theorem dX5_restore_12 : decode cX5_restore 12 = .ok (.aload_n 0, 1) := by decide +kernel
theorem dX5_restore_13 : decode cX5_restore 13 = .ok (.getfield 37, 3) := by decide +kernel
theorem dX5_restore_16 : decode cX5_restore 16 = .ok (.iload_n 1, 1) := by decide +kernel
theorem dX5_restore_17 : decode cX5_restore 17 = .ok (.baload, 1) := by decide +kernel
theorem dX5_restore_18 : decode cX5_restore 18 = .ok (.ifCond .ne 6, 3) := by decide +kernel
theorem dX5_restore_21 : decode cX5_restore 21 = .ok (.bipush (-5), 2) := by decide +kernel
theorem dX5_restore_23 : decode cX5_restore 23 = .ok (.ireturn, 1) := by decide +kernel
theorem dX5_restore_24 : decode cX5_restore 24 = .ok (.aload_n 0, 1) := by decide +kernel
theorem dX5_restore_25 : decode cX5_restore 25 = .ok (.getfield 22, 3) := by decide +kernel
theorem dX5_restore_28 : decode cX5_restore 28 = .ok (.aload_n 0, 1) := by decide +kernel
theorem dX5_restore_29 : decode cX5_restore 29 = .ok (.getfield 10, 3) := by decide +kernel
theorem dX5_restore_32 : decode cX5_restore 32 = .ok (.invokevirtual 48, 3) := by decide +kernel
theorem dX5_restore_35 : decode cX5_restore 35 = .ok (.aload_n 0, 1) := by decide +kernel
theorem dX5_restore_36 : decode cX5_restore 36 = .ok (.getfield 10, 3) := by decide +kernel
theorem dX5_restore_39 : decode cX5_restore 39 = .ok (.aload_n 0, 1) := by decide +kernel
theorem dX5_restore_40 : decode cX5_restore 40 = .ok (.getfield 33, 3) := by decide +kernel
theorem dX5_restore_43 : decode cX5_restore 43 = .ok (.iload_n 1, 1) := by decide +kernel
theorem dX5_restore_44 : decode cX5_restore 44 = .ok (.aaload, 1) := by decide +kernel
theorem dX5_restore_45 : decode cX5_restore 45 = .ok (.invokevirtual 191, 3) := by decide +kernel
theorem dX5_restore_48 : decode cX5_restore 48 = .ok (.aload_n 0, 1) := by decide +kernel
theorem dX5_restore_49 : decode cX5_restore 49 = .ok (.getfield 10, 3) := by decide +kernel
theorem dX5_restore_52 : decode cX5_restore 52 = .ok (.getfield 62, 3) := by decide +kernel
theorem dX5_restore_55 : decode cX5_restore 55 = .ok (.invokevirtual 126, 3) := by decide +kernel
theorem dX5_restore_58 : decode cX5_restore 58 = .ok (.ireturn, 1) := by decide +kernel
theorem dX5_isRow_0 : decode cX5_isRow 0 = .ok (.iload_n 0, 1) := by decide +kernel
theorem dX5_isRow_1 : decode cX5_isRow 1 = .ok (.ifCond .lt 13, 3) := by decide +kernel
theorem dX5_isRow_4 : decode cX5_isRow 4 = .ok (.iload_n 0, 1) := by decide +kernel
theorem dX5_isRow_5 : decode cX5_isRow 5 = .ok (.bipush 16, 2) := by decide +kernel
theorem dX5_isRow_7 : decode cX5_isRow 7 = .ok (.if_icmp .ge 7, 3) := by decide +kernel
theorem dX5_isRow_10 : decode cX5_isRow 10 = .ok (.iconst 1, 1) := by decide +kernel
theorem dX5_isRow_11 : decode cX5_isRow 11 = .ok (.goto 4, 3) := by decide +kernel
theorem dX5_isRow_14 : decode cX5_isRow 14 = .ok (.iconst 0, 1) := by decide +kernel
theorem dX5_isRow_15 : decode cX5_isRow 15 = .ok (.ireturn, 1) := by decide +kernel
theorem dX5_isPlace_0 : decode cX5_isPlace 0 = .ok (.iload_n 0, 1) := by decide +kernel
theorem dX5_isPlace_1 : decode cX5_isPlace 1 = .ok (.ifCond .lt 13, 3) := by decide +kernel
theorem dX5_isPlace_4 : decode cX5_isPlace 4 = .ok (.iload_n 0, 1) := by decide +kernel
theorem dX5_isPlace_5 : decode cX5_isPlace 5 = .ok (.bipush 6, 2) := by decide +kernel
theorem dX5_isPlace_7 : decode cX5_isPlace 7 = .ok (.if_icmp .ge 7, 3) := by decide +kernel
theorem dX5_isPlace_10 : decode cX5_isPlace 10 = .ok (.iconst 1, 1) := by decide +kernel
theorem dX5_isPlace_11 : decode cX5_isPlace 11 = .ok (.goto 4, 3) := by decide +kernel
theorem dX5_isPlace_14 : decode cX5_isPlace 14 = .ok (.iconst 0, 1) := by decide +kernel
theorem dX5_isPlace_15 : decode cX5_isPlace 15 = .ok (.ireturn, 1) := by decide +kernel
theorem dX5_asNumber_0 : decode cX5_asNumber 0 = .ok (.iload_n 0, 1) := by decide +kernel
theorem dX5_asNumber_1 : decode cX5_asNumber 1 = .ok (.ifCond .eq 7, 3) := by decide +kernel
theorem dX5_asNumber_4 : decode cX5_asNumber 4 = .ok (.iconst 1, 1) := by decide +kernel
theorem dX5_asNumber_5 : decode cX5_asNumber 5 = .ok (.goto 4, 3) := by decide +kernel
theorem dX5_asNumber_8 : decode cX5_asNumber 8 = .ok (.iconst 0, 1) := by decide +kernel
theorem dX5_asNumber_9 : decode cX5_asNumber 9 = .ok (.ireturn, 1) := by decide +kernel
set_option maxRecDepth 20000 in
theorem ggX5_rightWithRow_X0_copyFrom : GoodIn wsX5_rightWithRow wsX0_copyFrom := goodIn_r _ [9, 10, 11, 12, 13, 14, 15, 16, 17, 18, 19, 20, 21, 22, 23, 24, 25, 26, 27, 28, 29, 30, 31, 32, 33, 34, 35, 36, 37, 38, 39, 40, 41, 42, 43, 44, 45, 46, 118, 119, 120, 121, 122, 123, 124, 125, 126, 127, 128, 129, 130, 131, 132, 133, 134, 135, 136, 137, 138] (by decide +kernel) (by decide +kernel)
set_option maxRecDepth 20000 in
theorem gX5_rightWithRow_X0_copyFrom : GoodIn wsX5_rightWithRow (wsV RX5 191 RX0 yX0_copyFrom wsX0_copyFrom) := goodIn_app (goodIn_of _ (by decide +kernel)) ggX5_rightWithRow_X0_copyFrom
set_option maxRecDepth 20000 in
theorem ggX5_rightWithRow_X1_giveRow : GoodIn wsX5_rightWithRow wsX1_giveRow := goodIn_r _ [50, 34, 32, 51, 52, 53, 30, 54, 131, 132, 133, 134] (by decide +kernel) (by decide +kernel)
set_option maxRecDepth 20000 in
theorem gX5_rightWithRow_X1_giveRow : GoodIn wsX5_rightWithRow (wsV RX5 71 RX1 yX1_giveRow wsX1_giveRow) := goodIn_app (goodIn_of _ (by decide +kernel)) ggX5_rightWithRow_X1_giveRow
set_option maxRecDepth 20000 in
theorem ggX5_rightWithRow_X0_makeSteps : GoodIn wsX5_rightWithRow wsX0_makeSteps := goodIn_r _ [58, 59, 60, 61, 8, 62, 17, 15, 63, 26, 64, 22, 21, 10, 65, 66, 67, 68, 69, 70, 71, 30, 72, 32, 73, 74, 75, 76, 77, 78, 79, 80, 81, 82, 83, 84, 85, 86, 87, 19, 20, 16, 88, 89, 90, 91, 40, 92, 42, 45, 44, 93, 94, 95, 96, 34, 36, 97, 98, 99, 100, 35, 101, 102, 103, 104, 105, 106, 107, 25, 18, 23, 24, 108, 109, 110, 111, 118, 119, 120, 121, 122, 123, 124, 125, 126, 127, 128, 129, 130, 131, 132, 133, 134, 135, 136, 137, 138] (by decide +kernel) (by decide +kernel)
set_option maxRecDepth 20000 in
theorem gX5_rightWithRow_X0_makeSteps : GoodIn wsX5_rightWithRow (wsV RX5 100 RX0 yX0_makeSteps wsX0_makeSteps) := goodIn_app (goodIn_of _ (by decide +kernel)) ggX5_rightWithRow_X0_makeSteps
theorem dX5_rightWithRow_0 : decode cX5_rightWithRow 0 = .ok (.aload_n 0, 1) := by decide +kernel
theorem dX5_rightWithRow_1 : decode cX5_rightWithRow 1 = .ok (.getfield 16, 3) := by decide +kernel
theorem dX5_rightWithRow_4 : decode cX5_rightWithRow 4 = .ok (.aload_n 0, 1) := by decide +kernel
theorem dX5_rightWithRow_5 : decode cX5_rightWithRow 5 = .ok (.getfield 10, 3) := by decide +kernel
theorem dX5_rightWithRow_8 : decode cX5_rightWithRow 8 = .ok (.invokevirtual 191, 3) := by decide +kernel
theorem dX5_rightWithRow_11 : decode cX5_rightWithRow 11 = .ok (.aload_n 0, 1) := by decide +kernel
theorem dX5_rightWithRow_12 : decode cX5_rightWithRow 12 = .ok (.getfield 16, 3) := by decide +kernel
theorem dX5_rightWithRow_15 : decode cX5_rightWithRow 15 = .ok (.getfield 62, 3) := by decide +kernel
theorem dX5_rightWithRow_18 : decode cX5_rightWithRow 18 = .ok (.iload_n 1, 1) := by decide +kernel
theorem dX5_rightWithRow_19 : decode cX5_rightWithRow 19 = .ok (.iload_n 2, 1) := by decide +kernel
theorem dX5_rightWithRow_20 : decode cX5_rightWithRow 20 = .ok (.invokevirtual 71, 3) := by decide +kernel
theorem dX5_rightWithRow_23 : decode cX5_rightWithRow 23 = .ok (.aload_n 0, 1) := by decide +kernel
theorem dX5_rightWithRow_24 : decode cX5_rightWithRow 24 = .ok (.getfield 16, 3) := by decide +kernel
theorem dX5_rightWithRow_27 : decode cX5_rightWithRow 27 = .ok (.bipush 64, 2) := by decide +kernel
theorem dX5_rightWithRow_29 : decode cX5_rightWithRow 29 = .ok (.invokevirtual 100, 3) := by decide +kernel
theorem dX5_rightWithRow_32 : decode cX5_rightWithRow 32 = .ok (.pop, 1) := by decide +kernel
theorem dX5_rightWithRow_33 : decode cX5_rightWithRow 33 = .ok (.aload_n 0, 1) := by decide +kernel
theorem dX5_rightWithRow_34 : decode cX5_rightWithRow 34 = .ok (.getfield 16, 3) := by decide +kernel
theorem dX5_rightWithRow_37 : decode cX5_rightWithRow 37 = .ok (.getfield 167, 3) := by decide +kernel
theorem dX5_rightWithRow_40 : decode cX5_rightWithRow 40 = .ok (.aload_n 0, 1) := by decide +kernel
theorem dX5_rightWithRow_41 : decode cX5_rightWithRow 41 = .ok (.getfield 10, 3) := by decide +kernel
theorem dX5_rightWithRow_44 : decode cX5_rightWithRow 44 = .ok (.getfield 167, 3) := by decide +kernel
theorem dX5_rightWithRow_47 : decode cX5_rightWithRow 47 = .ok (.isub, 1) := by decide +kernel
theorem dX5_rightWithRow_48 : decode cX5_rightWithRow 48 = .ok (.ireturn, 1) := by decide +kernel
set_option maxRecDepth 20000 in
theorem ggX5_nextStampsByStep_X1_hasPeg : GoodIn wsX5_nextStampsByStep wsX1_hasPeg := goodIn_r _ [9, 10, 33, 34, 35, 36] (by decide +kernel) (by decide +kernel)
set_option maxRecDepth 20000 in
theorem gX5_nextStampsByStep_X1_hasPeg : GoodIn wsX5_nextStampsByStep (wsV RX5 142 RX1 yX1_hasPeg wsX1_hasPeg) := goodIn_app (goodIn_of _ (by decide +kernel)) ggX5_nextStampsByStep_X1_hasPeg
set_option maxRecDepth 20000 in
theorem ggX5_nextStampsByStep_X1_rowBehind : GoodIn wsX5_nextStampsByStep wsX1_rowBehind := goodIn_r _ [13] (by decide +kernel) (by decide +kernel)
set_option maxRecDepth 20000 in
theorem gX5_nextStampsByStep_X1_rowBehind : GoodIn wsX5_nextStampsByStep (va_wsS RX5 217 yX1_rowBehind wsX1_rowBehind) := goodIn_app (goodIn_of _ (by decide +kernel)) ggX5_nextStampsByStep_X1_rowBehind
theorem dX5_nextStampsByStep_0 : decode cX5_nextStampsByStep 0 = .ok (.iconst 0, 1) := by decide +kernel
theorem dX5_nextStampsByStep_1 : decode cX5_nextStampsByStep 1 = .ok (.istore_n 1, 1) := by decide +kernel
theorem dX5_nextStampsByStep_2 : decode cX5_nextStampsByStep 2 = .ok (.aload_n 0, 1) := by decide +kernel
theorem dX5_nextStampsByStep_3 : decode cX5_nextStampsByStep 3 = .ok (.getfield 10, 3) := by decide +kernel
theorem dX5_nextStampsByStep_6 : decode cX5_nextStampsByStep 6 = .ok (.getfield 62, 3) := by decide +kernel
theorem dX5_nextStampsByStep_9 : decode cX5_nextStampsByStep 9 = .ok (.getfield 103, 3) := by decide +kernel
theorem dX5_nextStampsByStep_12 : decode cX5_nextStampsByStep 12 = .ok (.istore_n 2, 1) := by decide +kernel
theorem dX5_nextStampsByStep_13 : decode cX5_nextStampsByStep 13 = .ok (.iconst 0, 1) := by decide +kernel
theorem dX5_nextStampsByStep_14 : decode cX5_nextStampsByStep 14 = .ok (.istore_n 3, 1) := by decide +kernel
theorem dX5_nextStampsByStep_15 : decode cX5_nextStampsByStep 15 = .ok (.iload_n 3, 1) := by decide +kernel
theorem dX5_nextStampsByStep_16 : decode cX5_nextStampsByStep 16 = .ok (.aload_n 0, 1) := by decide +kernel
theorem dX5_nextStampsByStep_17 : decode cX5_nextStampsByStep 17 = .ok (.getfield 10, 3) := by decide +kernel
theorem dX5_nextStampsByStep_20 : decode cX5_nextStampsByStep 20 = .ok (.getfield 52, 3) := by decide +kernel
theorem dX5_nextStampsByStep_23 : decode cX5_nextStampsByStep 23 = .ok (.iconst 0, 1) := by decide +kernel
theorem dX5_nextStampsByStep_24 : decode cX5_nextStampsByStep 24 = .ok (.iaload, 1) := by decide +kernel
theorem dX5_nextStampsByStep_25 : decode cX5_nextStampsByStep 25 = .ok (.if_icmp .ge 53, 3) := by decide +kernel
theorem dX5_nextStampsByStep_28 : decode cX5_nextStampsByStep 28 = .ok (.iconst 0, 1) := by decide +kernel
theorem dX5_nextStampsByStep_29 : decode cX5_nextStampsByStep 29 = .ok (.istore 4, 2) := by decide +kernel
theorem dX5_nextStampsByStep_31 : decode cX5_nextStampsByStep 31 = .ok (.iload 4, 2) := by decide +kernel
theorem dX5_nextStampsByStep_33 : decode cX5_nextStampsByStep 33 = .ok (.bipush 6, 2) := by decide +kernel
theorem dX5_nextStampsByStep_35 : decode cX5_nextStampsByStep 35 = .ok (.if_icmp .ge 32, 3) := by decide +kernel
theorem dX5_nextStampsByStep_38 : decode cX5_nextStampsByStep 38 = .ok (.aload_n 0, 1) := by decide +kernel
theorem dX5_nextStampsByStep_39 : decode cX5_nextStampsByStep 39 = .ok (.getfield 10, 3) := by decide +kernel
theorem dX5_nextStampsByStep_42 : decode cX5_nextStampsByStep 42 = .ok (.getfield 62, 3) := by decide +kernel
theorem dX5_nextStampsByStep_45 : decode cX5_nextStampsByStep 45 = .ok (.iload_n 2, 1) := by decide +kernel
theorem dX5_nextStampsByStep_46 : decode cX5_nextStampsByStep 46 = .ok (.iload 4, 2) := by decide +kernel
theorem dX5_nextStampsByStep_48 : decode cX5_nextStampsByStep 48 = .ok (.invokevirtual 142, 3) := by decide +kernel
theorem dX5_nextStampsByStep_51 : decode cX5_nextStampsByStep 51 = .ok (.ifCond .eq 10, 3) := by decide +kernel
theorem dX5_nextStampsByStep_54 : decode cX5_nextStampsByStep 54 = .ok (.iload_n 1, 1) := by decide +kernel
theorem dX5_nextStampsByStep_55 : decode cX5_nextStampsByStep 55 = .ok (.iconst 1, 1) := by decide +kernel
theorem dX5_nextStampsByStep_56 : decode cX5_nextStampsByStep 56 = .ok (.iload 4, 2) := by decide +kernel
theorem dX5_nextStampsByStep_58 : decode cX5_nextStampsByStep 58 = .ok (.ishl, 1) := by decide +kernel
theorem dX5_nextStampsByStep_59 : decode cX5_nextStampsByStep 59 = .ok (.ior, 1) := by decide +kernel
theorem dX5_nextStampsByStep_60 : decode cX5_nextStampsByStep 60 = .ok (.istore_n 1, 1) := by decide +kernel
theorem dX5_nextStampsByStep_61 : decode cX5_nextStampsByStep 61 = .ok (.iinc 4 1, 3) := by decide +kernel
theorem dX5_nextStampsByStep_64 : decode cX5_nextStampsByStep 64 = .ok (.goto (-33), 3) := by decide +kernel
theorem dX5_nextStampsByStep_67 : decode cX5_nextStampsByStep 67 = .ok (.iload_n 2, 1) := by decide +kernel
theorem dX5_nextStampsByStep_68 : decode cX5_nextStampsByStep 68 = .ok (.invokestatic 217, 3) := by decide +kernel
theorem dX5_nextStampsByStep_71 : decode cX5_nextStampsByStep 71 = .ok (.istore_n 2, 1) := by decide +kernel
theorem dX5_nextStampsByStep_72 : decode cX5_nextStampsByStep 72 = .ok (.iinc 3 1, 3) := by decide +kernel
theorem dX5_nextStampsByStep_75 : decode cX5_nextStampsByStep 75 = .ok (.goto (-60), 3) := by decide +kernel
theorem dX5_nextStampsByStep_78 : decode cX5_nextStampsByStep 78 = .ok (.iload_n 1, 1) := by decide +kernel
theorem dX5_nextStampsByStep_79 : decode cX5_nextStampsByStep 79 = .ok (.ireturn, 1) := by decide +kernel
set_option maxRecDepth 20000 in
theorem ggX5_nextStampsByPegs_J9_floorMod_7cf53 : GoodIn wsX5_nextStampsByPegs wsJ9_floorMod_7cf53 := goodIn_r _ [9] (by decide +kernel) (by decide +kernel)
set_option maxRecDepth 20000 in
theorem gX5_nextStampsByPegs_J9_floorMod_7cf53 : GoodIn wsX5_nextStampsByPegs (va_wsS RX5 136 yJ9_floorMod_7cf53 wsJ9_floorMod_7cf53) := goodIn_app (goodIn_of _ (by decide +kernel)) ggX5_nextStampsByPegs_J9_floorMod_7cf53
theorem dX5_nextStampsByPegs_0 : decode cX5_nextStampsByPegs 0 = .ok (.iconst 0, 1) := by decide +kernel
theorem dX5_nextStampsByPegs_1 : decode cX5_nextStampsByPegs 1 = .ok (.istore_n 1, 1) := by decide +kernel
theorem dX5_nextStampsByPegs_2 : decode cX5_nextStampsByPegs 2 = .ok (.iconst 0, 1) := by decide +kernel
theorem dX5_nextStampsByPegs_3 : decode cX5_nextStampsByPegs 3 = .ok (.istore_n 2, 1) := by decide +kernel
theorem dX5_nextStampsByPegs_4 : decode cX5_nextStampsByPegs 4 = .ok (.iload_n 2, 1) := by decide +kernel
theorem dX5_nextStampsByPegs_5 : decode cX5_nextStampsByPegs 5 = .ok (.aload_n 0, 1) := by decide +kernel
theorem dX5_nextStampsByPegs_6 : decode cX5_nextStampsByPegs 6 = .ok (.getfield 10, 3) := by decide +kernel
theorem dX5_nextStampsByPegs_9 : decode cX5_nextStampsByPegs 9 = .ok (.getfield 52, 3) := by decide +kernel
theorem dX5_nextStampsByPegs_12 : decode cX5_nextStampsByPegs 12 = .ok (.iconst 0, 1) := by decide +kernel
theorem dX5_nextStampsByPegs_13 : decode cX5_nextStampsByPegs 13 = .ok (.iaload, 1) := by decide +kernel
theorem dX5_nextStampsByPegs_14 : decode cX5_nextStampsByPegs 14 = .ok (.if_icmp .ge 40, 3) := by decide +kernel
theorem dX5_nextStampsByPegs_17 : decode cX5_nextStampsByPegs 17 = .ok (.iload_n 1, 1) := by decide +kernel
theorem dX5_nextStampsByPegs_18 : decode cX5_nextStampsByPegs 18 = .ok (.aload_n 0, 1) := by decide +kernel
theorem dX5_nextStampsByPegs_19 : decode cX5_nextStampsByPegs 19 = .ok (.getfield 10, 3) := by decide +kernel
theorem dX5_nextStampsByPegs_22 : decode cX5_nextStampsByPegs 22 = .ok (.getfield 62, 3) := by decide +kernel
theorem dX5_nextStampsByPegs_25 : decode cX5_nextStampsByPegs 25 = .ok (.getfield 66, 3) := by decide +kernel
theorem dX5_nextStampsByPegs_28 : decode cX5_nextStampsByPegs 28 = .ok (.aload_n 0, 1) := by decide +kernel
theorem dX5_nextStampsByPegs_29 : decode cX5_nextStampsByPegs 29 = .ok (.getfield 10, 3) := by decide +kernel
theorem dX5_nextStampsByPegs_32 : decode cX5_nextStampsByPegs 32 = .ok (.getfield 62, 3) := by decide +kernel
theorem dX5_nextStampsByPegs_35 : decode cX5_nextStampsByPegs 35 = .ok (.getfield 103, 3) := by decide +kernel
theorem dX5_nextStampsByPegs_38 : decode cX5_nextStampsByPegs 38 = .ok (.iload_n 2, 1) := by decide +kernel
theorem dX5_nextStampsByPegs_39 : decode cX5_nextStampsByPegs 39 = .ok (.iadd, 1) := by decide +kernel
theorem dX5_nextStampsByPegs_40 : decode cX5_nextStampsByPegs 40 = .ok (.bipush 16, 2) := by decide +kernel
theorem dX5_nextStampsByPegs_42 : decode cX5_nextStampsByPegs 42 = .ok (.invokestatic 136, 3) := by decide +kernel
theorem dX5_nextStampsByPegs_45 : decode cX5_nextStampsByPegs 45 = .ok (.iaload, 1) := by decide +kernel
theorem dX5_nextStampsByPegs_46 : decode cX5_nextStampsByPegs 46 = .ok (.ior, 1) := by decide +kernel
theorem dX5_nextStampsByPegs_47 : decode cX5_nextStampsByPegs 47 = .ok (.istore_n 1, 1) := by decide +kernel
theorem dX5_nextStampsByPegs_48 : decode cX5_nextStampsByPegs 48 = .ok (.iinc 2 1, 3) := by decide +kernel
theorem dX5_nextStampsByPegs_51 : decode cX5_nextStampsByPegs 51 = .ok (.goto (-47), 3) := by decide +kernel
theorem dX5_nextStampsByPegs_54 : decode cX5_nextStampsByPegs 54 = .ok (.iload_n 1, 1) := by decide +kernel
theorem dX5_nextStampsByPegs_55 : decode cX5_nextStampsByPegs 55 = .ok (.ireturn, 1) := by decide +kernel
end
section
theorem dX6_init_0 : decode cX6_init 0 = .ok (.aload_n 0, 1) := by decide +kernel
theorem dX6_init_1 : decode cX6_init 1 = .ok (.invokespecial 1, 3) := by decide +kernel
theorem dX6_init_4 : decode cX6_init 4 = .ok (.aload_n 0, 1) := by decide +kernel
theorem dX6_init_5 : decode cX6_init 5 = .ok (.sipush 136, 3) := by decide +kernel
theorem dX6_init_8 : decode cX6_init 8 = .ok (.newarray .int, 2) := by decide +kernel
theorem dX6_init_10 : decode cX6_init 10 = .ok (.putfield 7, 3) := by decide +kernel
theorem dX6_init_13 : decode cX6_init 13 = .ok (.aload_n 0, 1) := by decide +kernel
theorem dX6_init_14 : decode cX6_init 14 = .ok (.sipush 136, 3) := by decide +kernel
theorem dX6_init_17 : decode cX6_init 17 = .ok (.newarray .int, 2) := by decide +kernel
theorem dX6_init_19 : decode cX6_init 19 = .ok (.putfield 13, 3) := by decide +kernel
theorem dX6_init_22 : decode cX6_init 22 = .ok (.aload_n 0, 1) := by decide +kernel
theorem dX6_init_23 : decode cX6_init 23 = .ok (.sipush 816, 3) := by decide +kernel
theorem dX6_init_26 : decode cX6_init 26 = .ok (.newarray .int, 2) := by decide +kernel
theorem dX6_init_28 : decode cX6_init 28 = .ok (.putfield 16, 3) := by decide +kernel
theorem dX6_init_31 : decode cX6_init 31 = .ok (.aload_n 0, 1) := by decide +kernel
theorem dX6_init_32 : decode cX6_init 32 = .ok (.sipush 272, 3) := by decide +kernel
theorem dX6_init_35 : decode cX6_init 35 = .ok (.newarray .int, 2) := by decide +kernel
theorem dX6_init_37 : decode cX6_init 37 = .ok (.putfield 19, 3) := by decide +kernel
theorem dX6_init_40 : decode cX6_init 40 = .ok (.aload_n 0, 1) := by decide +kernel
theorem dX6_init_41 : decode cX6_init 41 = .ok (.iconst 2, 1) := by decide +kernel
theorem dX6_init_42 : decode cX6_init 42 = .ok (.newarray .int, 2) := by decide +kernel
theorem dX6_init_44 : decode cX6_init 44 = .ok (.putfield 22, 3) := by decide +kernel
theorem dX6_init_47 : decode cX6_init 47 = .ok (.aload_n 0, 1) := by decide +kernel
theorem dX6_init_48 : decode cX6_init 48 = .ok (.bipush 60, 2) := by decide +kernel
theorem dX6_init_50 : decode cX6_init 50 = .ok (.newarray .int, 2) := by decide +kernel
theorem dX6_init_52 : decode cX6_init 52 = .ok (.putfield 25, 3) := by decide +kernel
theorem dX6_init_55 : decode cX6_init 55 = .ok (.aload_n 0, 1) := by decide +kernel
theorem dX6_init_56 : decode cX6_init 56 = .ok (.bipush 31, 2) := by decide +kernel
theorem dX6_init_58 : decode cX6_init 58 = .ok (.newarray .int, 2) := by decide +kernel
theorem dX6_init_60 : decode cX6_init 60 = .ok (.putfield 28, 3) := by decide +kernel
theorem dX6_init_63 : decode cX6_init 63 = .ok (.aload_n 0, 1) := by decide +kernel
theorem dX6_init_64 : decode cX6_init 64 = .ok (.bipush 31, 2) := by decide +kernel
theorem dX6_init_66 : decode cX6_init 66 = .ok (.newarray .int, 2) := by decide +kernel
theorem dX6_init_68 : decode cX6_init 68 = .ok (.putfield 31, 3) := by decide +kernel
theorem dX6_init_71 : decode cX6_init 71 = .ok (.aload_n 0, 1) := by decide +kernel
theorem dX6_init_72 : decode cX6_init 72 = .ok (.getfield 7, 3) := by decide +kernel
theorem dX6_init_75 : decode cX6_init 75 = .ok (.iconst 0, 1) := by decide +kernel
theorem dX6_init_76 : decode cX6_init 76 = .ok (.iconst 4, 1) := by decide +kernel
theorem dX6_init_77 : decode cX6_init 77 = .ok (.iastore, 1) := by decide +kernel
theorem dX6_init_78 : decode cX6_init 78 = .ok (.aload_n 0, 1) := by decide +kernel
theorem dX6_init_79 : decode cX6_init 79 = .ok (.getfield 7, 3) := by decide +kernel
theorem dX6_init_82 : decode cX6_init 82 = .ok (.iconst 1, 1) := by decide +kernel
theorem dX6_init_83 : decode cX6_init 83 = .ok (.iconst 1, 1) := by decide +kernel
theorem dX6_init_84 : decode cX6_init 84 = .ok (.iastore, 1) := by decide +kernel
theorem dX6_init_85 : decode cX6_init 85 = .ok (.aload_n 0, 1) := by decide +kernel
theorem dX6_init_86 : decode cX6_init 86 = .ok (.getfield 7, 3) := by decide +kernel
theorem dX6_init_89 : decode cX6_init 89 = .ok (.iconst 3, 1) := by decide +kernel
theorem dX6_init_90 : decode cX6_init 90 = .ok (.iconst 1, 1) := by decide +kernel
theorem dX6_init_91 : decode cX6_init 91 = .ok (.iastore, 1) := by decide +kernel
theorem dX6_init_92 : decode cX6_init 92 = .ok (.iconst 0, 1) := by decide +kernel
theorem dX6_init_93 : decode cX6_init 93 = .ok (.istore_n 1, 1) := by decide +kernel
theorem dX6_init_94 : decode cX6_init 94 = .ok (.iload_n 1, 1) := by decide +kernel
theorem dX6_init_95 : decode cX6_init 95 = .ok (.bipush 6, 2) := by decide +kernel
theorem dX6_init_97 : decode cX6_init 97 = .ok (.if_icmp .ge 20, 3) := by decide +kernel
theorem dX6_init_100 : decode cX6_init 100 = .ok (.aload_n 0, 1) := by decide +kernel
theorem dX6_init_101 : decode cX6_init 101 = .ok (.getfield 7, 3) := by decide +kernel
theorem dX6_init_104 : decode cX6_init 104 = .ok (.bipush 16, 2) := by decide +kernel
theorem dX6_init_106 : decode cX6_init 106 = .ok (.iload_n 1, 1) := by decide +kernel
theorem dX6_init_107 : decode cX6_init 107 = .ok (.iadd, 1) := by decide +kernel
theorem dX6_init_108 : decode cX6_init 108 = .ok (.bipush 50, 2) := by decide +kernel
theorem dX6_init_110 : decode cX6_init 110 = .ok (.iastore, 1) := by decide +kernel
theorem dX6_init_111 : decode cX6_init 111 = .ok (.iinc 1 1, 3) := by decide +kernel
theorem dX6_init_114 : decode cX6_init 114 = .ok (.goto (-20), 3) := by decide +kernel
theorem dX6_init_117 : decode cX6_init 117 = .ok (.bipush 40, 2) := by decide +kernel
theorem dX6_init_119 : decode cX6_init 119 = .ok (.istore_n 1, 1) := by decide +kernel
theorem dX6_init_120 : decode cX6_init 120 = .ok (.iload_n 1, 1) := by decide +kernel
theorem dX6_init_121 : decode cX6_init 121 = .ok (.sipush 136, 3) := by decide +kernel
theorem dX6_init_124 : decode cX6_init 124 = .ok (.if_icmp .ge 17, 3) := by decide +kernel
theorem dX6_init_127 : decode cX6_init 127 = .ok (.aload_n 0, 1) := by decide +kernel
theorem dX6_init_128 : decode cX6_init 128 = .ok (.getfield 7, 3) := by decide +kernel
theorem dX6_init_131 : decode cX6_init 131 = .ok (.iload_n 1, 1) := by decide +kernel
theorem dX6_init_132 : decode cX6_init 132 = .ok (.bipush (-6), 2) := by decide +kernel
theorem dX6_init_134 : decode cX6_init 134 = .ok (.iastore, 1) := by decide +kernel
theorem dX6_init_135 : decode cX6_init 135 = .ok (.iinc 1 1, 3) := by decide +kernel
theorem dX6_init_138 : decode cX6_init 138 = .ok (.goto (-18), 3) := by decide +kernel
theorem dX6_init_141 : decode cX6_init 141 = .ok (.return_, 1) := by decide +kernel
theorem dX6_in_0 : decode cX6_in 0 = .ok (.lload_n 0, 1) := by decide +kernel
theorem dX6_in_1 : decode cX6_in 1 = .ok (.lload_n 2, 1) := by decide +kernel
theorem dX6_in_2 : decode cX6_in 2 = .ok (.lcmp, 1) := by decide +kernel
theorem dX6_in_3 : decode cX6_in 3 = .ok (.ifCond .lt 14, 3) := by decide +kernel
theorem dX6_in_6 : decode cX6_in 6 = .ok (.lload_n 0, 1) := by decide +kernel
theorem dX6_in_7 : decode cX6_in 7 = .ok (.lload 4, 2) := by decide +kernel
theorem dX6_in_9 : decode cX6_in 9 = .ok (.lcmp, 1) := by decide +kernel
theorem dX6_in_10 : decode cX6_in 10 = .ok (.ifCond .gt 7, 3) := by decide +kernel
theorem dX6_in_13 : decode cX6_in 13 = .ok (.iconst 1, 1) := by decide +kernel
theorem dX6_in_14 : decode cX6_in 14 = .ok (.goto 4, 3) := by decide +kernel
theorem dX6_in_17 : decode cX6_in 17 = .ok (.iconst 0, 1) := by decide +kernel
theorem dX6_in_18 : decode cX6_in 18 = .ok (.ireturn, 1) := by decide +kernel
theorem dX6_changes_0 : decode cX6_changes 0 = .ok (.aload_n 0, 1) := by decide +kernel
theorem dX6_changes_1 : decode cX6_changes 1 = .ok (.getfield 34, 3) := by decide +kernel
theorem dX6_changes_4 : decode cX6_changes 4 = .ok (.bipush 6, 2) := by decide +kernel
theorem dX6_changes_6 : decode cX6_changes 6 = .ok (.if_icmp .ne 44, 3) := by decide +kernel
theorem dX6_changes_9 : decode cX6_changes 9 = .ok (.iconst 0, 1) := by decide +kernel
theorem dX6_changes_10 : decode cX6_changes 10 = .ok (.istore_n 1, 1) := by decide +kernel
theorem dX6_changes_11 : decode cX6_changes 11 = .ok (.iload_n 1, 1) := by decide +kernel
theorem dX6_changes_12 : decode cX6_changes 12 = .ok (.sipush 680, 3) := by decide +kernel
theorem dX6_changes_15 : decode cX6_changes 15 = .ok (.if_icmp .ge 25, 3) := by decide +kernel
theorem dX6_changes_18 : decode cX6_changes 18 = .ok (.aload_n 0, 1) := by decide +kernel
theorem dX6_changes_19 : decode cX6_changes 19 = .ok (.getfield 16, 3) := by decide +kernel
theorem dX6_changes_22 : decode cX6_changes 22 = .ok (.iload_n 1, 1) := by decide +kernel
theorem dX6_changes_23 : decode cX6_changes 23 = .ok (.aload_n 0, 1) := by decide +kernel
theorem dX6_changes_24 : decode cX6_changes 24 = .ok (.getfield 16, 3) := by decide +kernel
theorem dX6_changes_27 : decode cX6_changes 27 = .ok (.iload_n 1, 1) := by decide +kernel
theorem dX6_changes_28 : decode cX6_changes 28 = .ok (.sipush 136, 3) := by decide +kernel
theorem dX6_changes_31 : decode cX6_changes 31 = .ok (.iadd, 1) := by decide +kernel
theorem dX6_changes_32 : decode cX6_changes 32 = .ok (.iaload, 1) := by decide +kernel
theorem dX6_changes_33 : decode cX6_changes 33 = .ok (.iastore, 1) := by decide +kernel
theorem dX6_changes_34 : decode cX6_changes 34 = .ok (.iinc 1 1, 3) := by decide +kernel
theorem dX6_changes_37 : decode cX6_changes 37 = .ok (.goto (-26), 3) := by decide +kernel
theorem dX6_changes_40 : decode cX6_changes 40 = .ok (.aload_n 0, 1) := by decide +kernel
theorem dX6_changes_41 : decode cX6_changes 41 = .ok (.dup, 1) := by decide +kernel
theorem dX6_changes_42 : decode cX6_changes 42 = .ok (.getfield 34, 3) := by decide +kernel
theorem dX6_changes_45 : decode cX6_changes 45 = .ok (.iconst 1, 1) := by decide +kernel
theorem dX6_changes_46 : decode cX6_changes 46 = .ok (.isub, 1) := by decide +kernel
theorem dX6_changes_47 : decode cX6_changes 47 = .ok (.putfield 34, 3) := by decide +kernel
theorem dX6_changes_50 : decode cX6_changes 50 = .ok (.iconst 0, 1) := by decide +kernel
theorem dX6_changes_51 : decode cX6_changes 51 = .ok (.istore_n 1, 1) := by decide +kernel
theorem dX6_changes_52 : decode cX6_changes 52 = .ok (.iload_n 1, 1) := by decide +kernel
theorem dX6_changes_53 : decode cX6_changes 53 = .ok (.sipush 136, 3) := by decide +kernel
theorem dX6_changes_56 : decode cX6_changes 56 = .ok (.if_icmp .ge 30, 3) := by decide +kernel
theorem dX6_changes_59 : decode cX6_changes 59 = .ok (.aload_n 0, 1) := by decide +kernel
theorem dX6_changes_60 : decode cX6_changes 60 = .ok (.getfield 16, 3) := by decide +kernel
theorem dX6_changes_63 : decode cX6_changes 63 = .ok (.sipush 136, 3) := by decide +kernel
theorem dX6_changes_66 : decode cX6_changes 66 = .ok (.aload_n 0, 1) := by decide +kernel
theorem dX6_changes_67 : decode cX6_changes 67 = .ok (.getfield 34, 3) := by decide +kernel
theorem dX6_changes_70 : decode cX6_changes 70 = .ok (.imul, 1) := by decide +kernel
theorem dX6_changes_71 : decode cX6_changes 71 = .ok (.iload_n 1, 1) := by decide +kernel
theorem dX6_changes_72 : decode cX6_changes 72 = .ok (.iadd, 1) := by decide +kernel
theorem dX6_changes_73 : decode cX6_changes 73 = .ok (.aload_n 0, 1) := by decide +kernel
theorem dX6_changes_74 : decode cX6_changes 74 = .ok (.getfield 7, 3) := by decide +kernel
theorem dX6_changes_77 : decode cX6_changes 77 = .ok (.iload_n 1, 1) := by decide +kernel
theorem dX6_changes_78 : decode cX6_changes 78 = .ok (.iaload, 1) := by decide +kernel
theorem dX6_changes_79 : decode cX6_changes 79 = .ok (.iastore, 1) := by decide +kernel
theorem dX6_changes_80 : decode cX6_changes 80 = .ok (.iinc 1 1, 3) := by decide +kernel
theorem dX6_changes_83 : decode cX6_changes 83 = .ok (.goto (-31), 3) := by decide +kernel
theorem dX6_changes_86 : decode cX6_changes 86 = .ok (.aload_n 0, 1) := by decide +kernel
theorem dX6_changes_87 : decode cX6_changes 87 = .ok (.dup, 1) := by decide +kernel
theorem dX6_changes_88 : decode cX6_changes 88 = .ok (.getfield 34, 3) := by decide +kernel
theorem dX6_changes_91 : decode cX6_changes 91 = .ok (.iconst 1, 1) := by decide +kernel
theorem dX6_changes_92 : decode cX6_changes 92 = .ok (.iadd, 1) := by decide +kernel
theorem dX6_changes_93 : decode cX6_changes 93 = .ok (.putfield 34, 3) := by decide +kernel
theorem dX6_changes_96 : decode cX6_changes 96 = .ok (.return_, 1) := by decide +kernel
theorem dX6_keeps_0 : decode cX6_keeps 0 = .ok (.iconst 0, 1) := by decide +kernel
theorem dX6_keeps_1 : decode cX6_keeps 1 = .ok (.istore_n 1, 1) := by decide +kernel
theorem dX6_keeps_2 : decode cX6_keeps 2 = .ok (.iload_n 1, 1) := by decide +kernel
theorem dX6_keeps_3 : decode cX6_keeps 3 = .ok (.sipush 136, 3) := by decide +kernel
theorem dX6_keeps_6 : decode cX6_keeps 6 = .ok (.if_icmp .ge 21, 3) := by decide +kernel
theorem dX6_keeps_9 : decode cX6_keeps 9 = .ok (.aload_n 0, 1) := by decide +kernel
theorem dX6_keeps_10 : decode cX6_keeps 10 = .ok (.getfield 13, 3) := by decide +kernel
theorem dX6_keeps_13 : decode cX6_keeps 13 = .ok (.iload_n 1, 1) := by decide +kernel
theorem dX6_keeps_14 : decode cX6_keeps 14 = .ok (.aload_n 0, 1) := by decide +kernel
theorem dX6_keeps_15 : decode cX6_keeps 15 = .ok (.getfield 7, 3) := by decide +kernel
theorem dX6_keeps_18 : decode cX6_keeps 18 = .ok (.iload_n 1, 1) := by decide +kernel
theorem dX6_keeps_19 : decode cX6_keeps 19 = .ok (.iaload, 1) := by decide +kernel
theorem dX6_keeps_20 : decode cX6_keeps 20 = .ok (.iastore, 1) := by decide +kernel
theorem dX6_keeps_21 : decode cX6_keeps 21 = .ok (.iinc 1 1, 3) := by decide +kernel
theorem dX6_keeps_24 : decode cX6_keeps 24 = .ok (.goto (-22), 3) := by decide +kernel
theorem dX6_keeps_27 : decode cX6_keeps 27 = .ok (.return_, 1) := by decide +kernel
theorem dX6_comesBack_0 : decode cX6_comesBack 0 = .ok (.iconst 0, 1) := by decide +kernel
theorem dX6_comesBack_1 : decode cX6_comesBack 1 = .ok (.istore_n 1, 1) := by decide +kernel
theorem dX6_comesBack_2 : decode cX6_comesBack 2 = .ok (.iload_n 1, 1) := by decide +kernel
theorem dX6_comesBack_3 : decode cX6_comesBack 3 = .ok (.sipush 136, 3) := by decide +kernel
theorem dX6_comesBack_6 : decode cX6_comesBack 6 = .ok (.if_icmp .ge 21, 3) := by decide +kernel
theorem dX6_comesBack_9 : decode cX6_comesBack 9 = .ok (.aload_n 0, 1) := by decide +kernel
theorem dX6_comesBack_10 : decode cX6_comesBack 10 = .ok (.getfield 7, 3) := by decide +kernel
theorem dX6_comesBack_13 : decode cX6_comesBack 13 = .ok (.iload_n 1, 1) := by decide +kernel
theorem dX6_comesBack_14 : decode cX6_comesBack 14 = .ok (.aload_n 0, 1) := by decide +kernel
theorem dX6_comesBack_15 : decode cX6_comesBack 15 = .ok (.getfield 13, 3) := by decide +kernel
theorem dX6_comesBack_18 : decode cX6_comesBack 18 = .ok (.iload_n 1, 1) := by decide +kernel
theorem dX6_comesBack_19 : decode cX6_comesBack 19 = .ok (.iaload, 1) := by decide +kernel
theorem dX6_comesBack_20 : decode cX6_comesBack 20 = .ok (.iastore, 1) := by decide +kernel
theorem dX6_comesBack_21 : decode cX6_comesBack 21 = .ok (.iinc 1 1, 3) := by decide +kernel
theorem dX6_comesBack_24 : decode cX6_comesBack 24 = .ok (.goto (-22), 3) := by decide +kernel
theorem dX6_comesBack_27 : decode cX6_comesBack 27 = .ok (.return_, 1) := by decide +kernel
set_option maxRecDepth 20000 in
theorem ggX6_isRow_X6_in : GoodIn wsX6_isRow wsX6_in := goodIn_r _ [5] (by decide +kernel) (by decide +kernel)
set_option maxRecDepth 20000 in
theorem gX6_isRow_X6_in : GoodIn wsX6_isRow (va_wsS RX6 40 yX6_in wsX6_in) := goodIn_app (goodIn_of _ (by decide +kernel)) ggX6_isRow_X6_in
theorem dX6_isRow_0 : decode cX6_isRow 0 = .ok (.iload_n 0, 1) := by decide +kernel
theorem dX6_isRow_1 : decode cX6_isRow 1 = .ok (.i2l, 1) := by decide +kernel
theorem dX6_isRow_2 : decode cX6_isRow 2 = .ok (.lconst 0, 1) := by decide +kernel
theorem dX6_isRow_3 : decode cX6_isRow 3 = .ok (.ldc2_w 38, 3) := by decide +kernel
theorem dX6_isRow_6 : decode cX6_isRow 6 = .ok (.invokestatic 40, 3) := by decide +kernel
theorem dX6_isRow_9 : decode cX6_isRow 9 = .ok (.ireturn, 1) := by decide +kernel
set_option maxRecDepth 20000 in
theorem ggX6_isPlace_X6_in : GoodIn wsX6_isPlace wsX6_in := goodIn_r _ [5] (by decide +kernel) (by decide +kernel)
set_option maxRecDepth 20000 in
theorem gX6_isPlace_X6_in : GoodIn wsX6_isPlace (va_wsS RX6 40 yX6_in wsX6_in) := goodIn_app (goodIn_of _ (by decide +kernel)) ggX6_isPlace_X6_in
theorem dX6_isPlace_0 : decode cX6_isPlace 0 = .ok (.iload_n 0, 1) := by decide +kernel
theorem dX6_isPlace_1 : decode cX6_isPlace 1 = .ok (.i2l, 1) := by decide +kernel
theorem dX6_isPlace_2 : decode cX6_isPlace 2 = .ok (.lconst 0, 1) := by decide +kernel
theorem dX6_isPlace_3 : decode cX6_isPlace 3 = .ok (.ldc2_w 44, 3) := by decide +kernel
theorem dX6_isPlace_6 : decode cX6_isPlace 6 = .ok (.invokestatic 40, 3) := by decide +kernel
theorem dX6_isPlace_9 : decode cX6_isPlace 9 = .ok (.ireturn, 1) := by decide +kernel
theorem dX6_at_0 : decode cX6_at 0 = .ok (.bipush 40, 2) := by decide +kernel
theorem dX6_at_2 : decode cX6_at 2 = .ok (.bipush 6, 2) := by decide +kernel
theorem dX6_at_4 : decode cX6_at 4 = .ok (.iload_n 0, 1) := by decide +kernel
theorem dX6_at_5 : decode cX6_at 5 = .ok (.imul, 1) := by decide +kernel
theorem dX6_at_6 : decode cX6_at 6 = .ok (.iadd, 1) := by decide +kernel
theorem dX6_at_7 : decode cX6_at 7 = .ok (.iload_n 1, 1) := by decide +kernel
theorem dX6_at_8 : decode cX6_at 8 = .ok (.iadd, 1) := by decide +kernel
theorem dX6_at_9 : decode cX6_at 9 = .ok (.ireturn, 1) := by decide +kernel
set_option maxRecDepth 20000 in
theorem ggX6_hasPeg_X6_at : GoodIn wsX6_hasPeg wsX6_at := goodIn_r _ [5] (by decide +kernel) (by decide +kernel)
set_option maxRecDepth 20000 in
theorem gX6_hasPeg_X6_at : GoodIn wsX6_hasPeg (va_wsS RX6 46 yX6_at wsX6_at) := goodIn_app (goodIn_of _ (by decide +kernel)) ggX6_hasPeg_X6_at
theorem dX6_hasPeg_0 : decode cX6_hasPeg 0 = .ok (.aload_n 0, 1) := by decide +kernel
theorem dX6_hasPeg_1 : decode cX6_hasPeg 1 = .ok (.getfield 7, 3) := by decide +kernel
theorem dX6_hasPeg_4 : decode cX6_hasPeg 4 = .ok (.iload_n 1, 1) := by decide +kernel
theorem dX6_hasPeg_5 : decode cX6_hasPeg 5 = .ok (.iload_n 2, 1) := by decide +kernel
theorem dX6_hasPeg_6 : decode cX6_hasPeg 6 = .ok (.invokestatic 46, 3) := by decide +kernel
theorem dX6_hasPeg_9 : decode cX6_hasPeg 9 = .ok (.iaload, 1) := by decide +kernel
theorem dX6_hasPeg_10 : decode cX6_hasPeg 10 = .ok (.bipush (-6), 2) := by decide +kernel
theorem dX6_hasPeg_12 : decode cX6_hasPeg 12 = .ok (.if_icmp .eq 7, 3) := by decide +kernel
theorem dX6_hasPeg_15 : decode cX6_hasPeg 15 = .ok (.iconst 1, 1) := by decide +kernel
theorem dX6_hasPeg_16 : decode cX6_hasPeg 16 = .ok (.goto 4, 3) := by decide +kernel
theorem dX6_hasPeg_19 : decode cX6_hasPeg 19 = .ok (.iconst 0, 1) := by decide +kernel
theorem dX6_hasPeg_20 : decode cX6_hasPeg 20 = .ok (.ireturn, 1) := by decide +kernel
set_option maxRecDepth 20000 in
theorem ggX6_pegsIn_X6_hasPeg : GoodIn wsX6_pegsIn wsX6_hasPeg := goodIn_r _ [5, 6, 7, 8, 4, 9, 10, 11, 12, 13, 14, 15, 16, 17, 18, 19, 20, 21] (by decide +kernel) (by decide +kernel)
set_option maxRecDepth 20000 in
theorem gX6_pegsIn_X6_hasPeg : GoodIn wsX6_pegsIn (wsV RX6 50 RX6 yX6_hasPeg wsX6_hasPeg) := goodIn_app (goodIn_of _ (by decide +kernel)) ggX6_pegsIn_X6_hasPeg
theorem dX6_pegsIn_0 : decode cX6_pegsIn 0 = .ok (.iconst 0, 1) := by decide +kernel
theorem dX6_pegsIn_1 : decode cX6_pegsIn 1 = .ok (.istore_n 2, 1) := by decide +kernel
theorem dX6_pegsIn_2 : decode cX6_pegsIn 2 = .ok (.iconst 0, 1) := by decide +kernel
theorem dX6_pegsIn_3 : decode cX6_pegsIn 3 = .ok (.istore_n 3, 1) := by decide +kernel
theorem dX6_pegsIn_4 : decode cX6_pegsIn 4 = .ok (.iload_n 3, 1) := by decide +kernel
theorem dX6_pegsIn_5 : decode cX6_pegsIn 5 = .ok (.bipush 6, 2) := by decide +kernel
theorem dX6_pegsIn_7 : decode cX6_pegsIn 7 = .ok (.if_icmp .ge 26, 3) := by decide +kernel
theorem dX6_pegsIn_10 : decode cX6_pegsIn 10 = .ok (.iload_n 2, 1) := by decide +kernel
theorem dX6_pegsIn_11 : decode cX6_pegsIn 11 = .ok (.aload_n 0, 1) := by decide +kernel
theorem dX6_pegsIn_12 : decode cX6_pegsIn 12 = .ok (.iload_n 1, 1) := by decide +kernel
theorem dX6_pegsIn_13 : decode cX6_pegsIn 13 = .ok (.iload_n 3, 1) := by decide +kernel
theorem dX6_pegsIn_14 : decode cX6_pegsIn 14 = .ok (.invokevirtual 50, 3) := by decide +kernel
theorem dX6_pegsIn_17 : decode cX6_pegsIn 17 = .ok (.ifCond .eq 7, 3) := by decide +kernel
theorem dX6_pegsIn_20 : decode cX6_pegsIn 20 = .ok (.iconst 1, 1) := by decide +kernel
theorem dX6_pegsIn_21 : decode cX6_pegsIn 21 = .ok (.goto 4, 3) := by decide +kernel
theorem dX6_pegsIn_24 : decode cX6_pegsIn 24 = .ok (.iconst 0, 1) := by decide +kernel
theorem dX6_pegsIn_25 : decode cX6_pegsIn 25 = .ok (.iadd, 1) := by decide +kernel
theorem dX6_pegsIn_26 : decode cX6_pegsIn 26 = .ok (.istore_n 2, 1) := by decide +kernel
theorem dX6_pegsIn_27 : decode cX6_pegsIn 27 = .ok (.iinc 3 1, 3) := by decide +kernel
theorem dX6_pegsIn_30 : decode cX6_pegsIn 30 = .ok (.goto (-26), 3) := by decide +kernel
theorem dX6_pegsIn_33 : decode cX6_pegsIn 33 = .ok (.iload_n 2, 1) := by decide +kernel
theorem dX6_pegsIn_34 : decode cX6_pegsIn 34 = .ok (.ireturn, 1) := by decide +kernel
set_option maxRecDepth 20000 in
theorem ggX6_setIn_X6_hasPeg : GoodIn wsX6_setIn wsX6_hasPeg := goodIn_r _ [5, 6, 7, 8, 4, 9, 10, 11, 12, 13, 14, 15, 16, 17, 18, 19, 20, 21] (by decide +kernel) (by decide +kernel)
set_option maxRecDepth 20000 in
theorem gX6_setIn_X6_hasPeg : GoodIn wsX6_setIn (wsV RX6 50 RX6 yX6_hasPeg wsX6_hasPeg) := goodIn_app (goodIn_of _ (by decide +kernel)) ggX6_setIn_X6_hasPeg
theorem dX6_setIn_0 : decode cX6_setIn 0 = .ok (.iconst 0, 1) := by decide +kernel
theorem dX6_setIn_1 : decode cX6_setIn 1 = .ok (.istore_n 2, 1) := by decide +kernel
theorem dX6_setIn_2 : decode cX6_setIn 2 = .ok (.iconst 0, 1) := by decide +kernel
theorem dX6_setIn_3 : decode cX6_setIn 3 = .ok (.istore_n 3, 1) := by decide +kernel
theorem dX6_setIn_4 : decode cX6_setIn 4 = .ok (.iload_n 3, 1) := by decide +kernel
theorem dX6_setIn_5 : decode cX6_setIn 5 = .ok (.bipush 6, 2) := by decide +kernel
theorem dX6_setIn_7 : decode cX6_setIn 7 = .ok (.if_icmp .ge 28, 3) := by decide +kernel
theorem dX6_setIn_10 : decode cX6_setIn 10 = .ok (.iload_n 2, 1) := by decide +kernel
theorem dX6_setIn_11 : decode cX6_setIn 11 = .ok (.aload_n 0, 1) := by decide +kernel
theorem dX6_setIn_12 : decode cX6_setIn 12 = .ok (.iload_n 1, 1) := by decide +kernel
theorem dX6_setIn_13 : decode cX6_setIn 13 = .ok (.iload_n 3, 1) := by decide +kernel
theorem dX6_setIn_14 : decode cX6_setIn 14 = .ok (.invokevirtual 50, 3) := by decide +kernel
theorem dX6_setIn_17 : decode cX6_setIn 17 = .ok (.ifCond .eq 9, 3) := by decide +kernel
theorem dX6_setIn_20 : decode cX6_setIn 20 = .ok (.iconst 1, 1) := by decide +kernel
theorem dX6_setIn_21 : decode cX6_setIn 21 = .ok (.iload_n 3, 1) := by decide +kernel
theorem dX6_setIn_22 : decode cX6_setIn 22 = .ok (.ishl, 1) := by decide +kernel
theorem dX6_setIn_23 : decode cX6_setIn 23 = .ok (.goto 4, 3) := by decide +kernel
theorem dX6_setIn_26 : decode cX6_setIn 26 = .ok (.iconst 0, 1) := by decide +kernel
theorem dX6_setIn_27 : decode cX6_setIn 27 = .ok (.ior, 1) := by decide +kernel
theorem dX6_setIn_28 : decode cX6_setIn 28 = .ok (.istore_n 2, 1) := by decide +kernel
theorem dX6_setIn_29 : decode cX6_setIn 29 = .ok (.iinc 3 1, 3) := by decide +kernel
theorem dX6_setIn_32 : decode cX6_setIn 32 = .ok (.goto (-28), 3) := by decide +kernel
theorem dX6_setIn_35 : decode cX6_setIn 35 = .ok (.iload_n 2, 1) := by decide +kernel
theorem dX6_setIn_36 : decode cX6_setIn 36 = .ok (.ireturn, 1) := by decide +kernel
set_option maxRecDepth 20000 in
theorem ggX6_pegs_X6_pegsIn : GoodIn wsX6_pegs wsX6_pegsIn := goodIn_r _ [5, 6, 7, 8, 4, 9, 10, 11, 12, 13, 14, 15, 16, 17, 18, 19, 20, 21, 22, 23, 24, 25] (by decide +kernel) (by decide +kernel)
set_option maxRecDepth 20000 in
theorem gX6_pegs_X6_pegsIn : GoodIn wsX6_pegs (wsV RX6 54 RX6 yX6_pegsIn wsX6_pegsIn) := goodIn_app (goodIn_of _ (by decide +kernel)) ggX6_pegs_X6_pegsIn
theorem dX6_pegs_0 : decode cX6_pegs 0 = .ok (.iconst 0, 1) := by decide +kernel
theorem dX6_pegs_1 : decode cX6_pegs 1 = .ok (.istore_n 1, 1) := by decide +kernel
theorem dX6_pegs_2 : decode cX6_pegs 2 = .ok (.iconst 0, 1) := by decide +kernel
theorem dX6_pegs_3 : decode cX6_pegs 3 = .ok (.istore_n 2, 1) := by decide +kernel
theorem dX6_pegs_4 : decode cX6_pegs 4 = .ok (.iload_n 2, 1) := by decide +kernel
theorem dX6_pegs_5 : decode cX6_pegs 5 = .ok (.bipush 16, 2) := by decide +kernel
theorem dX6_pegs_7 : decode cX6_pegs 7 = .ok (.if_icmp .ge 17, 3) := by decide +kernel
theorem dX6_pegs_10 : decode cX6_pegs 10 = .ok (.iload_n 1, 1) := by decide +kernel
theorem dX6_pegs_11 : decode cX6_pegs 11 = .ok (.aload_n 0, 1) := by decide +kernel
theorem dX6_pegs_12 : decode cX6_pegs 12 = .ok (.iload_n 2, 1) := by decide +kernel
theorem dX6_pegs_13 : decode cX6_pegs 13 = .ok (.invokevirtual 54, 3) := by decide +kernel
theorem dX6_pegs_16 : decode cX6_pegs 16 = .ok (.iadd, 1) := by decide +kernel
theorem dX6_pegs_17 : decode cX6_pegs 17 = .ok (.istore_n 1, 1) := by decide +kernel
theorem dX6_pegs_18 : decode cX6_pegs 18 = .ok (.iinc 2 1, 3) := by decide +kernel
theorem dX6_pegs_21 : decode cX6_pegs 21 = .ok (.goto (-17), 3) := by decide +kernel
theorem dX6_pegs_24 : decode cX6_pegs 24 = .ok (.iload_n 1, 1) := by decide +kernel
theorem dX6_pegs_25 : decode cX6_pegs 25 = .ok (.ireturn, 1) := by decide +kernel
set_option maxRecDepth 20000 in
theorem ggX6_wouldJam_X6_pegsIn : GoodIn wsX6_wouldJam wsX6_pegsIn := goodIn_r _ [6, 7, 8, 9, 5, 10, 1, 11, 12, 13, 14, 15, 16, 17, 18, 19, 20, 21, 22, 23, 24, 25] (by decide +kernel) (by decide +kernel)
set_option maxRecDepth 20000 in
theorem gX6_wouldJam_X6_pegsIn : GoodIn wsX6_wouldJam (wsV RX6 54 RX6 yX6_pegsIn wsX6_pegsIn) := goodIn_app (goodIn_of _ (by decide +kernel)) ggX6_wouldJam_X6_pegsIn
theorem dX6_wouldJam_0 : decode cX6_wouldJam 0 = .ok (.aload_n 0, 1) := by decide +kernel
theorem dX6_wouldJam_1 : decode cX6_wouldJam 1 = .ok (.iload_n 1, 1) := by decide +kernel
theorem dX6_wouldJam_2 : decode cX6_wouldJam 2 = .ok (.invokevirtual 54, 3) := by decide +kernel
theorem dX6_wouldJam_5 : decode cX6_wouldJam 5 = .ok (.aload_n 0, 1) := by decide +kernel
theorem dX6_wouldJam_6 : decode cX6_wouldJam 6 = .ok (.getfield 7, 3) := by decide +kernel
theorem dX6_wouldJam_9 : decode cX6_wouldJam 9 = .ok (.iconst 3, 1) := by decide +kernel
theorem dX6_wouldJam_10 : decode cX6_wouldJam 10 = .ok (.iaload, 1) := by decide +kernel
theorem dX6_wouldJam_11 : decode cX6_wouldJam 11 = .ok (.if_icmp .le 7, 3) := by decide +kernel
theorem dX6_wouldJam_14 : decode cX6_wouldJam 14 = .ok (.iconst 1, 1) := by decide +kernel
theorem dX6_wouldJam_15 : decode cX6_wouldJam 15 = .ok (.goto 4, 3) := by decide +kernel
theorem dX6_wouldJam_18 : decode cX6_wouldJam 18 = .ok (.iconst 0, 1) := by decide +kernel
theorem dX6_wouldJam_19 : decode cX6_wouldJam 19 = .ok (.ireturn, 1) := by decide +kernel
theorem dX6_newOne_0 : decode cX6_newOne 0 = .ok (.aload_n 0, 1) := by decide +kernel
theorem dX6_newOne_1 : decode cX6_newOne 1 = .ok (.getfield 7, 3) := by decide +kernel
theorem dX6_newOne_4 : decode cX6_newOne 4 = .ok (.bipush 7, 2) := by decide +kernel
theorem dX6_newOne_6 : decode cX6_newOne 6 = .ok (.iconst 0, 1) := by decide +kernel
theorem dX6_newOne_7 : decode cX6_newOne 7 = .ok (.iastore, 1) := by decide +kernel
theorem dX6_newOne_8 : decode cX6_newOne 8 = .ok (.aload_n 0, 1) := by decide +kernel
theorem dX6_newOne_9 : decode cX6_newOne 9 = .ok (.getfield 7, 3) := by decide +kernel
theorem dX6_newOne_12 : decode cX6_newOne 12 = .ok (.bipush 8, 2) := by decide +kernel
theorem dX6_newOne_14 : decode cX6_newOne 14 = .ok (.iconst 0, 1) := by decide +kernel
theorem dX6_newOne_15 : decode cX6_newOne 15 = .ok (.iastore, 1) := by decide +kernel
theorem dX6_newOne_16 : decode cX6_newOne 16 = .ok (.aload_n 0, 1) := by decide +kernel
theorem dX6_newOne_17 : decode cX6_newOne 17 = .ok (.getfield 7, 3) := by decide +kernel
theorem dX6_newOne_20 : decode cX6_newOne 20 = .ok (.bipush 9, 2) := by decide +kernel
theorem dX6_newOne_22 : decode cX6_newOne 22 = .ok (.iconst 0, 1) := by decide +kernel
theorem dX6_newOne_23 : decode cX6_newOne 23 = .ok (.iastore, 1) := by decide +kernel
theorem dX6_newOne_24 : decode cX6_newOne 24 = .ok (.return_, 1) := by decide +kernel
theorem dX6_falls_0 : decode cX6_falls 0 = .ok (.aload_n 0, 1) := by decide +kernel
theorem dX6_falls_1 : decode cX6_falls 1 = .ok (.getfield 7, 3) := by decide +kernel
theorem dX6_falls_4 : decode cX6_falls 4 = .ok (.bipush 7, 2) := by decide +kernel
theorem dX6_falls_6 : decode cX6_falls 6 = .ok (.iaload, 1) := by decide +kernel
theorem dX6_falls_7 : decode cX6_falls 7 = .ok (.iload_n 1, 1) := by decide +kernel
theorem dX6_falls_8 : decode cX6_falls 8 = .ok (.ishr, 1) := by decide +kernel
theorem dX6_falls_9 : decode cX6_falls 9 = .ok (.iconst 1, 1) := by decide +kernel
theorem dX6_falls_10 : decode cX6_falls 10 = .ok (.iand, 1) := by decide +kernel
theorem dX6_falls_11 : decode cX6_falls 11 = .ok (.iconst 1, 1) := by decide +kernel
theorem dX6_falls_12 : decode cX6_falls 12 = .ok (.if_icmp .ne 24, 3) := by decide +kernel
theorem dX6_falls_15 : decode cX6_falls 15 = .ok (.aload_n 0, 1) := by decide +kernel
theorem dX6_falls_16 : decode cX6_falls 16 = .ok (.getfield 7, 3) := by decide +kernel
theorem dX6_falls_19 : decode cX6_falls 19 = .ok (.bipush 8, 2) := by decide +kernel
theorem dX6_falls_21 : decode cX6_falls 21 = .ok (.iconst 1, 1) := by decide +kernel
theorem dX6_falls_22 : decode cX6_falls 22 = .ok (.iastore, 1) := by decide +kernel
theorem dX6_falls_23 : decode cX6_falls 23 = .ok (.aload_n 0, 1) := by decide +kernel
theorem dX6_falls_24 : decode cX6_falls 24 = .ok (.getfield 7, 3) := by decide +kernel
theorem dX6_falls_27 : decode cX6_falls 27 = .ok (.bipush 34, 2) := by decide +kernel
theorem dX6_falls_29 : decode cX6_falls 29 = .ok (.iload_n 1, 1) := by decide +kernel
theorem dX6_falls_30 : decode cX6_falls 30 = .ok (.iadd, 1) := by decide +kernel
theorem dX6_falls_31 : decode cX6_falls 31 = .ok (.dup2, 1) := by decide +kernel
theorem dX6_falls_32 : decode cX6_falls 32 = .ok (.iaload, 1) := by decide +kernel
theorem dX6_falls_33 : decode cX6_falls 33 = .ok (.iconst 1, 1) := by decide +kernel
theorem dX6_falls_34 : decode cX6_falls 34 = .ok (.iadd, 1) := by decide +kernel
theorem dX6_falls_35 : decode cX6_falls 35 = .ok (.iastore, 1) := by decide +kernel
theorem dX6_falls_36 : decode cX6_falls 36 = .ok (.aload_n 0, 1) := by decide +kernel
theorem dX6_falls_37 : decode cX6_falls 37 = .ok (.getfield 7, 3) := by decide +kernel
theorem dX6_falls_40 : decode cX6_falls 40 = .ok (.bipush 16, 2) := by decide +kernel
theorem dX6_falls_42 : decode cX6_falls 42 = .ok (.iload_n 1, 1) := by decide +kernel
theorem dX6_falls_43 : decode cX6_falls 43 = .ok (.iadd, 1) := by decide +kernel
theorem dX6_falls_44 : decode cX6_falls 44 = .ok (.iaload, 1) := by decide +kernel
theorem dX6_falls_45 : decode cX6_falls 45 = .ok (.aload_n 0, 1) := by decide +kernel
theorem dX6_falls_46 : decode cX6_falls 46 = .ok (.getfield 7, 3) := by decide +kernel
theorem dX6_falls_49 : decode cX6_falls 49 = .ok (.iconst 1, 1) := by decide +kernel
theorem dX6_falls_50 : decode cX6_falls 50 = .ok (.iaload, 1) := by decide +kernel
theorem dX6_falls_51 : decode cX6_falls 51 = .ok (.if_icmp .ge 17, 3) := by decide +kernel
theorem dX6_falls_54 : decode cX6_falls 54 = .ok (.aload_n 0, 1) := by decide +kernel
theorem dX6_falls_55 : decode cX6_falls 55 = .ok (.getfield 7, 3) := by decide +kernel
theorem dX6_falls_58 : decode cX6_falls 58 = .ok (.bipush 28, 2) := by decide +kernel
theorem dX6_falls_60 : decode cX6_falls 60 = .ok (.iload_n 1, 1) := by decide +kernel
theorem dX6_falls_61 : decode cX6_falls 61 = .ok (.iadd, 1) := by decide +kernel
theorem dX6_falls_62 : decode cX6_falls 62 = .ok (.dup2, 1) := by decide +kernel
theorem dX6_falls_63 : decode cX6_falls 63 = .ok (.iaload, 1) := by decide +kernel
theorem dX6_falls_64 : decode cX6_falls 64 = .ok (.iconst 1, 1) := by decide +kernel
theorem dX6_falls_65 : decode cX6_falls 65 = .ok (.iadd, 1) := by decide +kernel
theorem dX6_falls_66 : decode cX6_falls 66 = .ok (.iastore, 1) := by decide +kernel
theorem dX6_falls_67 : decode cX6_falls 67 = .ok (.return_, 1) := by decide +kernel
theorem dX6_falls_68 : decode cX6_falls 68 = .ok (.aload_n 0, 1) := by decide +kernel
theorem dX6_falls_69 : decode cX6_falls 69 = .ok (.getfield 7, 3) := by decide +kernel
theorem dX6_falls_72 : decode cX6_falls 72 = .ok (.bipush 16, 2) := by decide +kernel
theorem dX6_falls_74 : decode cX6_falls 74 = .ok (.iload_n 1, 1) := by decide +kernel
theorem dX6_falls_75 : decode cX6_falls 75 = .ok (.iadd, 1) := by decide +kernel
theorem dX6_falls_76 : decode cX6_falls 76 = .ok (.dup2, 1) := by decide +kernel
theorem dX6_falls_77 : decode cX6_falls 77 = .ok (.iaload, 1) := by decide +kernel
theorem dX6_falls_78 : decode cX6_falls 78 = .ok (.aload_n 0, 1) := by decide +kernel
theorem dX6_falls_79 : decode cX6_falls 79 = .ok (.getfield 7, 3) := by decide +kernel
theorem dX6_falls_82 : decode cX6_falls 82 = .ok (.iconst 1, 1) := by decide +kernel
theorem dX6_falls_83 : decode cX6_falls 83 = .ok (.iaload, 1) := by decide +kernel
theorem dX6_falls_84 : decode cX6_falls 84 = .ok (.isub, 1) := by decide +kernel
theorem dX6_falls_85 : decode cX6_falls 85 = .ok (.iastore, 1) := by decide +kernel
theorem dX6_falls_86 : decode cX6_falls 86 = .ok (.aload_n 0, 1) := by decide +kernel
theorem dX6_falls_87 : decode cX6_falls 87 = .ok (.getfield 7, 3) := by decide +kernel
theorem dX6_falls_90 : decode cX6_falls 90 = .ok (.bipush 22, 2) := by decide +kernel
theorem dX6_falls_92 : decode cX6_falls 92 = .ok (.iload_n 1, 1) := by decide +kernel
theorem dX6_falls_93 : decode cX6_falls 93 = .ok (.iadd, 1) := by decide +kernel
theorem dX6_falls_94 : decode cX6_falls 94 = .ok (.dup2, 1) := by decide +kernel
theorem dX6_falls_95 : decode cX6_falls 95 = .ok (.iaload, 1) := by decide +kernel
theorem dX6_falls_96 : decode cX6_falls 96 = .ok (.iconst 1, 1) := by decide +kernel
theorem dX6_falls_97 : decode cX6_falls 97 = .ok (.iadd, 1) := by decide +kernel
theorem dX6_falls_98 : decode cX6_falls 98 = .ok (.iastore, 1) := by decide +kernel
theorem dX6_falls_99 : decode cX6_falls 99 = .ok (.aload_n 0, 1) := by decide +kernel
theorem dX6_falls_100 : decode cX6_falls 100 = .ok (.getfield 7, 3) := by decide +kernel
theorem dX6_falls_103 : decode cX6_falls 103 = .ok (.bipush 7, 2) := by decide +kernel
theorem dX6_falls_105 : decode cX6_falls 105 = .ok (.dup2, 1) := by decide +kernel
theorem dX6_falls_106 : decode cX6_falls 106 = .ok (.iaload, 1) := by decide +kernel
theorem dX6_falls_107 : decode cX6_falls 107 = .ok (.iconst 1, 1) := by decide +kernel
theorem dX6_falls_108 : decode cX6_falls 108 = .ok (.iload_n 1, 1) := by decide +kernel
theorem dX6_falls_109 : decode cX6_falls 109 = .ok (.ishl, 1) := by decide +kernel
theorem dX6_falls_110 : decode cX6_falls 110 = .ok (.ior, 1) := by decide +kernel
theorem dX6_falls_111 : decode cX6_falls 111 = .ok (.iastore, 1) := by decide +kernel
theorem dX6_falls_112 : decode cX6_falls 112 = .ok (.return_, 1) := by decide +kernel
set_option maxRecDepth 20000 in
theorem ggX6_wears_X6_at : GoodIn wsX6_wears wsX6_at := goodIn_r _ [5] (by decide +kernel) (by decide +kernel)
set_option maxRecDepth 20000 in
theorem gX6_wears_X6_at : GoodIn wsX6_wears (va_wsS RX6 46 yX6_at wsX6_at) := goodIn_app (goodIn_of _ (by decide +kernel)) ggX6_wears_X6_at
theorem dX6_wears_0 : decode cX6_wears 0 = .ok (.aload_n 0, 1) := by decide +kernel
theorem dX6_wears_1 : decode cX6_wears 1 = .ok (.getfield 7, 3) := by decide +kernel
theorem dX6_wears_4 : decode cX6_wears 4 = .ok (.iload_n 1, 1) := by decide +kernel
theorem dX6_wears_5 : decode cX6_wears 5 = .ok (.iload_n 2, 1) := by decide +kernel
theorem dX6_wears_6 : decode cX6_wears 6 = .ok (.invokestatic 46, 3) := by decide +kernel
theorem dX6_wears_9 : decode cX6_wears 9 = .ok (.dup2, 1) := by decide +kernel
theorem dX6_wears_10 : decode cX6_wears 10 = .ok (.iaload, 1) := by decide +kernel
theorem dX6_wears_11 : decode cX6_wears 11 = .ok (.iconst 1, 1) := by decide +kernel
theorem dX6_wears_12 : decode cX6_wears 12 = .ok (.iadd, 1) := by decide +kernel
theorem dX6_wears_13 : decode cX6_wears 13 = .ok (.iastore, 1) := by decide +kernel
theorem dX6_wears_14 : decode cX6_wears 14 = .ok (.aload_n 0, 1) := by decide +kernel
theorem dX6_wears_15 : decode cX6_wears 15 = .ok (.getfield 7, 3) := by decide +kernel
theorem dX6_wears_18 : decode cX6_wears 18 = .ok (.iconst 2, 1) := by decide +kernel
theorem dX6_wears_19 : decode cX6_wears 19 = .ok (.iaload, 1) := by decide +kernel
theorem dX6_wears_20 : decode cX6_wears 20 = .ok (.ifCond .eq 45, 3) := by decide +kernel
theorem dX6_wears_23 : decode cX6_wears 23 = .ok (.aload_n 0, 1) := by decide +kernel
theorem dX6_wears_24 : decode cX6_wears 24 = .ok (.getfield 7, 3) := by decide +kernel
theorem dX6_wears_27 : decode cX6_wears 27 = .ok (.iload_n 1, 1) := by decide +kernel
theorem dX6_wears_28 : decode cX6_wears 28 = .ok (.iload_n 2, 1) := by decide +kernel
theorem dX6_wears_29 : decode cX6_wears 29 = .ok (.invokestatic 46, 3) := by decide +kernel
theorem dX6_wears_32 : decode cX6_wears 32 = .ok (.iaload, 1) := by decide +kernel
theorem dX6_wears_33 : decode cX6_wears 33 = .ok (.aload_n 0, 1) := by decide +kernel
theorem dX6_wears_34 : decode cX6_wears 34 = .ok (.getfield 7, 3) := by decide +kernel
theorem dX6_wears_37 : decode cX6_wears 37 = .ok (.iconst 2, 1) := by decide +kernel
theorem dX6_wears_38 : decode cX6_wears 38 = .ok (.iaload, 1) := by decide +kernel
theorem dX6_wears_39 : decode cX6_wears 39 = .ok (.if_icmp .lt 26, 3) := by decide +kernel
theorem dX6_wears_42 : decode cX6_wears 42 = .ok (.aload_n 0, 1) := by decide +kernel
theorem dX6_wears_43 : decode cX6_wears 43 = .ok (.getfield 7, 3) := by decide +kernel
theorem dX6_wears_46 : decode cX6_wears 46 = .ok (.iload_n 1, 1) := by decide +kernel
theorem dX6_wears_47 : decode cX6_wears 47 = .ok (.iload_n 2, 1) := by decide +kernel
theorem dX6_wears_48 : decode cX6_wears 48 = .ok (.invokestatic 46, 3) := by decide +kernel
theorem dX6_wears_51 : decode cX6_wears 51 = .ok (.bipush (-6), 2) := by decide +kernel
theorem dX6_wears_53 : decode cX6_wears 53 = .ok (.iastore, 1) := by decide +kernel
theorem dX6_wears_54 : decode cX6_wears 54 = .ok (.aload_n 0, 1) := by decide +kernel
theorem dX6_wears_55 : decode cX6_wears 55 = .ok (.getfield 7, 3) := by decide +kernel
theorem dX6_wears_58 : decode cX6_wears 58 = .ok (.bipush 15, 2) := by decide +kernel
theorem dX6_wears_60 : decode cX6_wears 60 = .ok (.dup2, 1) := by decide +kernel
theorem dX6_wears_61 : decode cX6_wears 61 = .ok (.iaload, 1) := by decide +kernel
theorem dX6_wears_62 : decode cX6_wears 62 = .ok (.iconst 1, 1) := by decide +kernel
theorem dX6_wears_63 : decode cX6_wears 63 = .ok (.iadd, 1) := by decide +kernel
theorem dX6_wears_64 : decode cX6_wears 64 = .ok (.iastore, 1) := by decide +kernel
theorem dX6_wears_65 : decode cX6_wears 65 = .ok (.return_, 1) := by decide +kernel
set_option maxRecDepth 20000 in
theorem ggX6_lies_X6_newOne : GoodIn wsX6_lies wsX6_newOne := goodIn_r _ [6, 1, 7, 8, 9, 10, 11, 12, 13, 14, 15, 16, 17, 18] (by decide +kernel) (by decide +kernel)
set_option maxRecDepth 20000 in
theorem gX6_lies_X6_newOne : GoodIn wsX6_lies (wsV RX6 58 RX6 yX6_newOne wsX6_newOne) := goodIn_app (goodIn_of _ (by decide +kernel)) ggX6_lies_X6_newOne
theorem dX6_lies_0 : decode cX6_lies 0 = .ok (.aload_n 0, 1) := by decide +kernel
theorem dX6_lies_1 : decode cX6_lies 1 = .ok (.getfield 7, 3) := by decide +kernel
theorem dX6_lies_4 : decode cX6_lies 4 = .ok (.bipush 9, 2) := by decide +kernel
theorem dX6_lies_6 : decode cX6_lies 6 = .ok (.dup2, 1) := by decide +kernel
theorem dX6_lies_7 : decode cX6_lies 7 = .ok (.iaload, 1) := by decide +kernel
theorem dX6_lies_8 : decode cX6_lies 8 = .ok (.iconst 1, 1) := by decide +kernel
theorem dX6_lies_9 : decode cX6_lies 9 = .ok (.iadd, 1) := by decide +kernel
theorem dX6_lies_10 : decode cX6_lies 10 = .ok (.iastore, 1) := by decide +kernel
theorem dX6_lies_11 : decode cX6_lies 11 = .ok (.aload_n 0, 1) := by decide +kernel
theorem dX6_lies_12 : decode cX6_lies 12 = .ok (.getfield 7, 3) := by decide +kernel
theorem dX6_lies_15 : decode cX6_lies 15 = .ok (.bipush 9, 2) := by decide +kernel
theorem dX6_lies_17 : decode cX6_lies 17 = .ok (.iaload, 1) := by decide +kernel
theorem dX6_lies_18 : decode cX6_lies 18 = .ok (.aload_n 0, 1) := by decide +kernel
theorem dX6_lies_19 : decode cX6_lies 19 = .ok (.getfield 7, 3) := by decide +kernel
theorem dX6_lies_22 : decode cX6_lies 22 = .ok (.iconst 0, 1) := by decide +kernel
theorem dX6_lies_23 : decode cX6_lies 23 = .ok (.iaload, 1) := by decide +kernel
theorem dX6_lies_24 : decode cX6_lies 24 = .ok (.if_icmp .ge 4, 3) := by decide +kernel
theorem dX6_lies_27 : decode cX6_lies 27 = .ok (.return_, 1) := by decide +kernel
theorem dX6_lies_28 : decode cX6_lies 28 = .ok (.aload_n 0, 1) := by decide +kernel
theorem dX6_lies_29 : decode cX6_lies 29 = .ok (.getfield 7, 3) := by decide +kernel
theorem dX6_lies_32 : decode cX6_lies 32 = .ok (.bipush 8, 2) := by decide +kernel
theorem dX6_lies_34 : decode cX6_lies 34 = .ok (.iaload, 1) := by decide +kernel
theorem dX6_lies_35 : decode cX6_lies 35 = .ok (.iconst 1, 1) := by decide +kernel
theorem dX6_lies_36 : decode cX6_lies 36 = .ok (.if_icmp .ne 17, 3) := by decide +kernel
theorem dX6_lies_39 : decode cX6_lies 39 = .ok (.aload_n 0, 1) := by decide +kernel
theorem dX6_lies_40 : decode cX6_lies 40 = .ok (.getfield 7, 3) := by decide +kernel
theorem dX6_lies_43 : decode cX6_lies 43 = .ok (.bipush 13, 2) := by decide +kernel
theorem dX6_lies_45 : decode cX6_lies 45 = .ok (.dup2, 1) := by decide +kernel
theorem dX6_lies_46 : decode cX6_lies 46 = .ok (.iaload, 1) := by decide +kernel
theorem dX6_lies_47 : decode cX6_lies 47 = .ok (.iconst 1, 1) := by decide +kernel
theorem dX6_lies_48 : decode cX6_lies 48 = .ok (.iadd, 1) := by decide +kernel
theorem dX6_lies_49 : decode cX6_lies 49 = .ok (.iastore, 1) := by decide +kernel
theorem dX6_lies_50 : decode cX6_lies 50 = .ok (.goto 45, 3) := by decide +kernel
theorem dX6_lies_53 : decode cX6_lies 53 = .ok (.aload_n 0, 1) := by decide +kernel
theorem dX6_lies_54 : decode cX6_lies 54 = .ok (.getfield 7, 3) := by decide +kernel
theorem dX6_lies_57 : decode cX6_lies 57 = .ok (.bipush 7, 2) := by decide +kernel
theorem dX6_lies_59 : decode cX6_lies 59 = .ok (.iaload, 1) := by decide +kernel
theorem dX6_lies_60 : decode cX6_lies 60 = .ok (.aload_n 0, 1) := by decide +kernel
theorem dX6_lies_61 : decode cX6_lies 61 = .ok (.getfield 7, 3) := by decide +kernel
theorem dX6_lies_64 : decode cX6_lies 64 = .ok (.bipush 6, 2) := by decide +kernel
theorem dX6_lies_66 : decode cX6_lies 66 = .ok (.iaload, 1) := by decide +kernel
theorem dX6_lies_67 : decode cX6_lies 67 = .ok (.if_icmp .ne 17, 3) := by decide +kernel
theorem dX6_lies_70 : decode cX6_lies 70 = .ok (.aload_n 0, 1) := by decide +kernel
theorem dX6_lies_71 : decode cX6_lies 71 = .ok (.getfield 7, 3) := by decide +kernel
theorem dX6_lies_74 : decode cX6_lies 74 = .ok (.bipush 11, 2) := by decide +kernel
theorem dX6_lies_76 : decode cX6_lies 76 = .ok (.dup2, 1) := by decide +kernel
theorem dX6_lies_77 : decode cX6_lies 77 = .ok (.iaload, 1) := by decide +kernel
theorem dX6_lies_78 : decode cX6_lies 78 = .ok (.iconst 1, 1) := by decide +kernel
theorem dX6_lies_79 : decode cX6_lies 79 = .ok (.iadd, 1) := by decide +kernel
theorem dX6_lies_80 : decode cX6_lies 80 = .ok (.iastore, 1) := by decide +kernel
theorem dX6_lies_81 : decode cX6_lies 81 = .ok (.goto 14, 3) := by decide +kernel
theorem dX6_lies_84 : decode cX6_lies 84 = .ok (.aload_n 0, 1) := by decide +kernel
theorem dX6_lies_85 : decode cX6_lies 85 = .ok (.getfield 7, 3) := by decide +kernel
theorem dX6_lies_88 : decode cX6_lies 88 = .ok (.bipush 12, 2) := by decide +kernel
theorem dX6_lies_90 : decode cX6_lies 90 = .ok (.dup2, 1) := by decide +kernel
theorem dX6_lies_91 : decode cX6_lies 91 = .ok (.iaload, 1) := by decide +kernel
theorem dX6_lies_92 : decode cX6_lies 92 = .ok (.iconst 1, 1) := by decide +kernel
theorem dX6_lies_93 : decode cX6_lies 93 = .ok (.iadd, 1) := by decide +kernel
theorem dX6_lies_94 : decode cX6_lies 94 = .ok (.iastore, 1) := by decide +kernel
theorem dX6_lies_95 : decode cX6_lies 95 = .ok (.aload_n 0, 1) := by decide +kernel
theorem dX6_lies_96 : decode cX6_lies 96 = .ok (.invokevirtual 58, 3) := by decide +kernel
theorem dX6_lies_99 : decode cX6_lies 99 = .ok (.return_, 1) := by decide +kernel
set_option maxRecDepth 20000 in
theorem ggX6_steps_X6_wouldJam : GoodIn wsX6_steps wsX6_wouldJam := goodIn_r _ [6, 1, 7, 8, 9, 5, 10, 11, 12, 13, 14, 15, 16, 17, 34, 35, 36, 37, 38, 39, 40, 41, 42, 43, 44, 45] (by decide +kernel) (by decide +kernel)
set_option maxRecDepth 20000 in
theorem gX6_steps_X6_wouldJam : GoodIn wsX6_steps (wsV RX6 61 RX6 yX6_wouldJam wsX6_wouldJam) := goodIn_app (goodIn_of _ (by decide +kernel)) ggX6_steps_X6_wouldJam
set_option maxRecDepth 20000 in
theorem ggX6_steps_X6_hasPeg : GoodIn wsX6_steps wsX6_hasPeg := goodIn_r _ [14, 1, 15, 16, 5, 17, 34, 35, 36, 37, 38, 39, 40, 41, 42, 43, 44, 45] (by decide +kernel) (by decide +kernel)
set_option maxRecDepth 20000 in
theorem gX6_steps_X6_hasPeg : GoodIn wsX6_steps (wsV RX6 50 RX6 yX6_hasPeg wsX6_hasPeg) := goodIn_app (goodIn_of _ (by decide +kernel)) ggX6_steps_X6_hasPeg
set_option maxRecDepth 20000 in
theorem ggX6_steps_X6_falls : GoodIn wsX6_steps wsX6_falls := goodIn_r _ [21, 1, 34, 35, 36, 37, 38, 39, 40, 41, 42, 43, 44, 45] (by decide +kernel) (by decide +kernel)
set_option maxRecDepth 20000 in
theorem gX6_steps_X6_falls : GoodIn wsX6_steps (wsV RX6 65 RX6 yX6_falls wsX6_falls) := goodIn_app (goodIn_of _ (by decide +kernel)) ggX6_steps_X6_falls
set_option maxRecDepth 20000 in
theorem ggX6_steps_X6_wears : GoodIn wsX6_steps wsX6_wears := goodIn_r _ [25, 1, 15, 16, 5, 17, 34, 35, 36, 37, 38, 39, 40, 41, 42, 43, 44, 45] (by decide +kernel) (by decide +kernel)
set_option maxRecDepth 20000 in
theorem gX6_steps_X6_wears : GoodIn wsX6_steps (wsV RX6 69 RX6 yX6_wears wsX6_wears) := goodIn_app (goodIn_of _ (by decide +kernel)) ggX6_steps_X6_wears
set_option maxRecDepth 20000 in
theorem ggX6_steps_X6_lies : GoodIn wsX6_steps wsX6_lies := goodIn_r _ [29, 1, 30, 31, 32, 5, 33, 34, 35, 36, 37, 38, 39, 40, 41, 42, 43, 44, 45] (by decide +kernel) (by decide +kernel)
set_option maxRecDepth 20000 in
theorem gX6_steps_X6_lies : GoodIn wsX6_steps (wsV RX6 73 RX6 yX6_lies wsX6_lies) := goodIn_app (goodIn_of _ (by decide +kernel)) ggX6_steps_X6_lies
theorem dX6_steps_0 : decode cX6_steps 0 = .ok (.aload_n 0, 1) := by decide +kernel
theorem dX6_steps_1 : decode cX6_steps 1 = .ok (.getfield 7, 3) := by decide +kernel
theorem dX6_steps_4 : decode cX6_steps 4 = .ok (.iconst 5, 1) := by decide +kernel
theorem dX6_steps_5 : decode cX6_steps 5 = .ok (.iaload, 1) := by decide +kernel
theorem dX6_steps_6 : decode cX6_steps 6 = .ok (.iconst 1, 1) := by decide +kernel
theorem dX6_steps_7 : decode cX6_steps 7 = .ok (.if_icmp .ne 5, 3) := by decide +kernel
theorem dX6_steps_10 : decode cX6_steps 10 = .ok (.iconst 0, 1) := by decide +kernel
theorem dX6_steps_11 : decode cX6_steps 11 = .ok (.ireturn, 1) := by decide +kernel
theorem dX6_steps_12 : decode cX6_steps 12 = .ok (.aload_n 0, 1) := by decide +kernel
theorem dX6_steps_13 : decode cX6_steps 13 = .ok (.getfield 7, 3) := by decide +kernel
theorem dX6_steps_16 : decode cX6_steps 16 = .ok (.iconst 4, 1) := by decide +kernel
theorem dX6_steps_17 : decode cX6_steps 17 = .ok (.iaload, 1) := by decide +kernel
theorem dX6_steps_18 : decode cX6_steps 18 = .ok (.istore_n 1, 1) := by decide +kernel
theorem dX6_steps_19 : decode cX6_steps 19 = .ok (.aload_n 0, 1) := by decide +kernel
theorem dX6_steps_20 : decode cX6_steps 20 = .ok (.iload_n 1, 1) := by decide +kernel
theorem dX6_steps_21 : decode cX6_steps 21 = .ok (.invokevirtual 61, 3) := by decide +kernel
theorem dX6_steps_24 : decode cX6_steps 24 = .ok (.ifCond .eq 23, 3) := by decide +kernel
theorem dX6_steps_27 : decode cX6_steps 27 = .ok (.aload_n 0, 1) := by decide +kernel
theorem dX6_steps_28 : decode cX6_steps 28 = .ok (.getfield 7, 3) := by decide +kernel
theorem dX6_steps_31 : decode cX6_steps 31 = .ok (.iconst 5, 1) := by decide +kernel
theorem dX6_steps_32 : decode cX6_steps 32 = .ok (.iconst 1, 1) := by decide +kernel
theorem dX6_steps_33 : decode cX6_steps 33 = .ok (.iastore, 1) := by decide +kernel
theorem dX6_steps_34 : decode cX6_steps 34 = .ok (.aload_n 0, 1) := by decide +kernel
theorem dX6_steps_35 : decode cX6_steps 35 = .ok (.getfield 7, 3) := by decide +kernel
theorem dX6_steps_38 : decode cX6_steps 38 = .ok (.bipush 14, 2) := by decide +kernel
theorem dX6_steps_40 : decode cX6_steps 40 = .ok (.dup2, 1) := by decide +kernel
theorem dX6_steps_41 : decode cX6_steps 41 = .ok (.iaload, 1) := by decide +kernel
theorem dX6_steps_42 : decode cX6_steps 42 = .ok (.iconst 1, 1) := by decide +kernel
theorem dX6_steps_43 : decode cX6_steps 43 = .ok (.iadd, 1) := by decide +kernel
theorem dX6_steps_44 : decode cX6_steps 44 = .ok (.iastore, 1) := by decide +kernel
theorem dX6_steps_45 : decode cX6_steps 45 = .ok (.iconst 0, 1) := by decide +kernel
theorem dX6_steps_46 : decode cX6_steps 46 = .ok (.ireturn, 1) := by decide +kernel
theorem dX6_steps_47 : decode cX6_steps 47 = .ok (.iconst 0, 1) := by decide +kernel
theorem dX6_steps_48 : decode cX6_steps 48 = .ok (.istore_n 2, 1) := by decide +kernel
theorem dX6_steps_49 : decode cX6_steps 49 = .ok (.iload_n 2, 1) := by decide +kernel
theorem dX6_steps_50 : decode cX6_steps 50 = .ok (.bipush 6, 2) := by decide +kernel
theorem dX6_steps_52 : decode cX6_steps 52 = .ok (.if_icmp .ge 29, 3) := by decide +kernel
theorem dX6_steps_55 : decode cX6_steps 55 = .ok (.aload_n 0, 1) := by decide +kernel
theorem dX6_steps_56 : decode cX6_steps 56 = .ok (.iload_n 1, 1) := by decide +kernel
theorem dX6_steps_57 : decode cX6_steps 57 = .ok (.iload_n 2, 1) := by decide +kernel
theorem dX6_steps_58 : decode cX6_steps 58 = .ok (.invokevirtual 50, 3) := by decide +kernel
theorem dX6_steps_61 : decode cX6_steps 61 = .ok (.ifCond .eq 14, 3) := by decide +kernel
theorem dX6_steps_64 : decode cX6_steps 64 = .ok (.aload_n 0, 1) := by decide +kernel
theorem dX6_steps_65 : decode cX6_steps 65 = .ok (.iload_n 2, 1) := by decide +kernel
theorem dX6_steps_66 : decode cX6_steps 66 = .ok (.invokevirtual 65, 3) := by decide +kernel
theorem dX6_steps_69 : decode cX6_steps 69 = .ok (.aload_n 0, 1) := by decide +kernel
theorem dX6_steps_70 : decode cX6_steps 70 = .ok (.iload_n 1, 1) := by decide +kernel
theorem dX6_steps_71 : decode cX6_steps 71 = .ok (.iload_n 2, 1) := by decide +kernel
theorem dX6_steps_72 : decode cX6_steps 72 = .ok (.invokevirtual 69, 3) := by decide +kernel
theorem dX6_steps_75 : decode cX6_steps 75 = .ok (.iinc 2 1, 3) := by decide +kernel
theorem dX6_steps_78 : decode cX6_steps 78 = .ok (.goto (-29), 3) := by decide +kernel
theorem dX6_steps_81 : decode cX6_steps 81 = .ok (.aload_n 0, 1) := by decide +kernel
theorem dX6_steps_82 : decode cX6_steps 82 = .ok (.getfield 7, 3) := by decide +kernel
theorem dX6_steps_85 : decode cX6_steps 85 = .ok (.iconst 4, 1) := by decide +kernel
theorem dX6_steps_86 : decode cX6_steps 86 = .ok (.iload_n 1, 1) := by decide +kernel
theorem dX6_steps_87 : decode cX6_steps 87 = .ok (.iconst 1, 1) := by decide +kernel
theorem dX6_steps_88 : decode cX6_steps 88 = .ok (.iadd, 1) := by decide +kernel
theorem dX6_steps_89 : decode cX6_steps 89 = .ok (.bipush 16, 2) := by decide +kernel
theorem dX6_steps_91 : decode cX6_steps 91 = .ok (.irem, 1) := by decide +kernel
theorem dX6_steps_92 : decode cX6_steps 92 = .ok (.iastore, 1) := by decide +kernel
theorem dX6_steps_93 : decode cX6_steps 93 = .ok (.aload_n 0, 1) := by decide +kernel
theorem dX6_steps_94 : decode cX6_steps 94 = .ok (.getfield 7, 3) := by decide +kernel
theorem dX6_steps_97 : decode cX6_steps 97 = .ok (.bipush 10, 2) := by decide +kernel
theorem dX6_steps_99 : decode cX6_steps 99 = .ok (.dup2, 1) := by decide +kernel
theorem dX6_steps_100 : decode cX6_steps 100 = .ok (.iaload, 1) := by decide +kernel
theorem dX6_steps_101 : decode cX6_steps 101 = .ok (.iconst 1, 1) := by decide +kernel
theorem dX6_steps_102 : decode cX6_steps 102 = .ok (.iadd, 1) := by decide +kernel
theorem dX6_steps_103 : decode cX6_steps 103 = .ok (.iastore, 1) := by decide +kernel
theorem dX6_steps_104 : decode cX6_steps 104 = .ok (.aload_n 0, 1) := by decide +kernel
theorem dX6_steps_105 : decode cX6_steps 105 = .ok (.invokevirtual 73, 3) := by decide +kernel
theorem dX6_steps_108 : decode cX6_steps 108 = .ok (.iconst 1, 1) := by decide +kernel
theorem dX6_steps_109 : decode cX6_steps 109 = .ok (.ireturn, 1) := by decide +kernel
set_option maxRecDepth 20000 in
theorem ggX6_stepsUpTo_X6_steps : GoodIn wsX6_stepsUpTo wsX6_steps := goodIn_r _ [5, 6, 7, 8, 9, 4, 10, 11, 12, 13, 14, 15, 16, 17, 18, 19, 20, 21, 22, 23, 24, 25, 26, 27, 28, 29, 30, 31, 32, 33, 34, 35, 36, 37, 38, 39, 40, 41, 42, 43, 44, 45, 46, 47, 48, 49] (by decide +kernel) (by decide +kernel)
set_option maxRecDepth 20000 in
theorem gX6_stepsUpTo_X6_steps : GoodIn wsX6_stepsUpTo (wsV RX6 76 RX6 yX6_steps wsX6_steps) := goodIn_app (goodIn_of _ (by decide +kernel)) ggX6_stepsUpTo_X6_steps
theorem dX6_stepsUpTo_0 : decode cX6_stepsUpTo 0 = .ok (.iconst 0, 1) := by decide +kernel
theorem dX6_stepsUpTo_1 : decode cX6_stepsUpTo 1 = .ok (.istore_n 2, 1) := by decide +kernel
theorem dX6_stepsUpTo_2 : decode cX6_stepsUpTo 2 = .ok (.iload_n 2, 1) := by decide +kernel
theorem dX6_stepsUpTo_3 : decode cX6_stepsUpTo 3 = .ok (.iload_n 1, 1) := by decide +kernel
theorem dX6_stepsUpTo_4 : decode cX6_stepsUpTo 4 = .ok (.if_icmp .ge 16, 3) := by decide +kernel
theorem dX6_stepsUpTo_7 : decode cX6_stepsUpTo 7 = .ok (.aload_n 0, 1) := by decide +kernel
theorem dX6_stepsUpTo_8 : decode cX6_stepsUpTo 8 = .ok (.invokevirtual 76, 3) := by decide +kernel
theorem dX6_stepsUpTo_11 : decode cX6_stepsUpTo 11 = .ok (.ifCond .eq 9, 3) := by decide +kernel
theorem dX6_stepsUpTo_14 : decode cX6_stepsUpTo 14 = .ok (.iinc 2 1, 3) := by decide +kernel
theorem dX6_stepsUpTo_17 : decode cX6_stepsUpTo 17 = .ok (.goto (-15), 3) := by decide +kernel
theorem dX6_stepsUpTo_20 : decode cX6_stepsUpTo 20 = .ok (.iload_n 2, 1) := by decide +kernel
theorem dX6_stepsUpTo_21 : decode cX6_stepsUpTo 21 = .ok (.ireturn, 1) := by decide +kernel
set_option maxRecDepth 20000 in
theorem ggX6_isSetting_X6_in : GoodIn wsX6_isSetting wsX6_in := goodIn_r _ [8] (by decide +kernel) (by decide +kernel)
set_option maxRecDepth 20000 in
theorem gX6_isSetting_X6_in : GoodIn wsX6_isSetting (va_wsS RX6 40 yX6_in wsX6_in) := goodIn_app (goodIn_of _ (by decide +kernel)) ggX6_isSetting_X6_in
theorem dX6_isSetting_0 : decode cX6_isSetting 0 = .ok (.iload_n 0, 1) := by decide +kernel
theorem dX6_isSetting_1 : decode cX6_isSetting 1 = .ok (.tableswitch 71 0 3 #[31, 41, 51, 61], 31) := by decide +kernel
theorem dX6_isSetting_32 : decode cX6_isSetting 32 = .ok (.iload_n 1, 1) := by decide +kernel
theorem dX6_isSetting_33 : decode cX6_isSetting 33 = .ok (.i2l, 1) := by decide +kernel
theorem dX6_isSetting_34 : decode cX6_isSetting 34 = .ok (.lconst 1, 1) := by decide +kernel
theorem dX6_isSetting_35 : decode cX6_isSetting 35 = .ok (.ldc2_w 80, 3) := by decide +kernel
theorem dX6_isSetting_38 : decode cX6_isSetting 38 = .ok (.invokestatic 40, 3) := by decide +kernel
theorem dX6_isSetting_41 : decode cX6_isSetting 41 = .ok (.ireturn, 1) := by decide +kernel
theorem dX6_isSetting_42 : decode cX6_isSetting 42 = .ok (.iload_n 1, 1) := by decide +kernel
theorem dX6_isSetting_43 : decode cX6_isSetting 43 = .ok (.i2l, 1) := by decide +kernel
theorem dX6_isSetting_44 : decode cX6_isSetting 44 = .ok (.lconst 0, 1) := by decide +kernel
theorem dX6_isSetting_45 : decode cX6_isSetting 45 = .ok (.ldc2_w 82, 3) := by decide +kernel
theorem dX6_isSetting_48 : decode cX6_isSetting 48 = .ok (.invokestatic 40, 3) := by decide +kernel
theorem dX6_isSetting_51 : decode cX6_isSetting 51 = .ok (.ireturn, 1) := by decide +kernel
theorem dX6_isSetting_52 : decode cX6_isSetting 52 = .ok (.iload_n 1, 1) := by decide +kernel
theorem dX6_isSetting_53 : decode cX6_isSetting 53 = .ok (.i2l, 1) := by decide +kernel
theorem dX6_isSetting_54 : decode cX6_isSetting 54 = .ok (.lconst 0, 1) := by decide +kernel
theorem dX6_isSetting_55 : decode cX6_isSetting 55 = .ok (.ldc2_w 84, 3) := by decide +kernel
theorem dX6_isSetting_58 : decode cX6_isSetting 58 = .ok (.invokestatic 40, 3) := by decide +kernel
theorem dX6_isSetting_61 : decode cX6_isSetting 61 = .ok (.ireturn, 1) := by decide +kernel
theorem dX6_isSetting_62 : decode cX6_isSetting 62 = .ok (.iload_n 1, 1) := by decide +kernel
theorem dX6_isSetting_63 : decode cX6_isSetting 63 = .ok (.i2l, 1) := by decide +kernel
theorem dX6_isSetting_64 : decode cX6_isSetting 64 = .ok (.lconst 1, 1) := by decide +kernel
theorem dX6_isSetting_65 : decode cX6_isSetting 65 = .ok (.ldc2_w 86, 3) := by decide +kernel
theorem dX6_isSetting_68 : decode cX6_isSetting 68 = .ok (.invokestatic 40, 3) := by decide +kernel
theorem dX6_isSetting_71 : decode cX6_isSetting 71 = .ok (.ireturn, 1) := by decide +kernel
theorem dX6_isSetting_72 : decode cX6_isSetting 72 = .ok (.iconst 0, 1) := by decide +kernel
theorem dX6_isSetting_73 : decode cX6_isSetting 73 = .ok (.ireturn, 1) := by decide +kernel
end
section
set_option maxRecDepth 20000 in
theorem ggX6_set_X6_isSetting : GoodIn wsX6_set wsX6_isSetting := goodIn_r _ [5, 6, 7, 8, 9, 10, 11, 4, 12] (by decide +kernel) (by decide +kernel)
set_option maxRecDepth 20000 in
theorem gX6_set_X6_isSetting : GoodIn wsX6_set (va_wsS RX6 88 yX6_isSetting wsX6_isSetting) := goodIn_app (goodIn_of _ (by decide +kernel)) ggX6_set_X6_isSetting
set_option maxRecDepth 20000 in
theorem ggX6_set_X6_changes : GoodIn wsX6_set wsX6_changes := goodIn_r _ [16, 17, 18, 1, 19, 20, 21, 22, 23, 24, 25, 26, 27, 28, 29, 30] (by decide +kernel) (by decide +kernel)
set_option maxRecDepth 20000 in
theorem gX6_set_X6_changes : GoodIn wsX6_set (wsV RX6 91 RX6 yX6_changes wsX6_changes) := goodIn_app (goodIn_of _ (by decide +kernel)) ggX6_set_X6_changes
theorem dX6_set_0 : decode cX6_set 0 = .ok (.iload_n 1, 1) := by decide +kernel
theorem dX6_set_1 : decode cX6_set 1 = .ok (.iload_n 2, 1) := by decide +kernel
theorem dX6_set_2 : decode cX6_set 2 = .ok (.invokestatic 88, 3) := by decide +kernel
theorem dX6_set_5 : decode cX6_set 5 = .ok (.ifCond .ne 6, 3) := by decide +kernel
theorem dX6_set_8 : decode cX6_set 8 = .ok (.bipush (-2), 2) := by decide +kernel
theorem dX6_set_10 : decode cX6_set 10 = .ok (.ireturn, 1) := by decide +kernel
theorem dX6_set_11 : decode cX6_set 11 = .ok (.aload_n 0, 1) := by decide +kernel
theorem dX6_set_12 : decode cX6_set 12 = .ok (.invokevirtual 91, 3) := by decide +kernel
theorem dX6_set_15 : decode cX6_set 15 = .ok (.aload_n 0, 1) := by decide +kernel
theorem dX6_set_16 : decode cX6_set 16 = .ok (.getfield 7, 3) := by decide +kernel
theorem dX6_set_19 : decode cX6_set 19 = .ok (.iload_n 1, 1) := by decide +kernel
theorem dX6_set_20 : decode cX6_set 20 = .ok (.iaload, 1) := by decide +kernel
theorem dX6_set_21 : decode cX6_set 21 = .ok (.istore_n 3, 1) := by decide +kernel
theorem dX6_set_22 : decode cX6_set 22 = .ok (.aload_n 0, 1) := by decide +kernel
theorem dX6_set_23 : decode cX6_set 23 = .ok (.getfield 7, 3) := by decide +kernel
theorem dX6_set_26 : decode cX6_set 26 = .ok (.iload_n 1, 1) := by decide +kernel
theorem dX6_set_27 : decode cX6_set 27 = .ok (.iload_n 2, 1) := by decide +kernel
theorem dX6_set_28 : decode cX6_set 28 = .ok (.iastore, 1) := by decide +kernel
theorem dX6_set_29 : decode cX6_set 29 = .ok (.iload_n 3, 1) := by decide +kernel
theorem dX6_set_30 : decode cX6_set 30 = .ok (.ireturn, 1) := by decide +kernel
set_option maxRecDepth 20000 in
theorem ggX6_peg_X6_isRow : GoodIn wsX6_peg wsX6_isRow := goodIn_r _ [5, 6, 7, 8, 4, 9] (by decide +kernel) (by decide +kernel)
set_option maxRecDepth 20000 in
theorem gX6_peg_X6_isRow : GoodIn wsX6_peg (va_wsS RX6 94 yX6_isRow wsX6_isRow) := goodIn_app (goodIn_of _ (by decide +kernel)) ggX6_peg_X6_isRow
set_option maxRecDepth 20000 in
theorem ggX6_peg_X6_isPlace : GoodIn wsX6_peg wsX6_isPlace := goodIn_r _ [12, 13, 7, 8, 4, 9] (by decide +kernel) (by decide +kernel)
set_option maxRecDepth 20000 in
theorem gX6_peg_X6_isPlace : GoodIn wsX6_peg (va_wsS RX6 97 yX6_isPlace wsX6_isPlace) := goodIn_app (goodIn_of _ (by decide +kernel)) ggX6_peg_X6_isPlace
set_option maxRecDepth 20000 in
theorem ggX6_peg_X6_changes : GoodIn wsX6_peg wsX6_changes := goodIn_r _ [17, 18, 19, 1, 31, 32, 33, 34, 35, 36, 37, 38, 39, 40, 41, 42] (by decide +kernel) (by decide +kernel)
set_option maxRecDepth 20000 in
theorem gX6_peg_X6_changes : GoodIn wsX6_peg (wsV RX6 91 RX6 yX6_changes wsX6_changes) := goodIn_app (goodIn_of _ (by decide +kernel)) ggX6_peg_X6_changes
set_option maxRecDepth 20000 in
theorem ggX6_peg_X6_at : GoodIn wsX6_peg wsX6_at := goodIn_r _ [22] (by decide +kernel) (by decide +kernel)
set_option maxRecDepth 20000 in
theorem gX6_peg_X6_at : GoodIn wsX6_peg (va_wsS RX6 46 yX6_at wsX6_at) := goodIn_app (goodIn_of _ (by decide +kernel)) ggX6_peg_X6_at
set_option maxRecDepth 20000 in
theorem ggX6_peg_X6_hasPeg : GoodIn wsX6_peg wsX6_hasPeg := goodIn_r _ [26, 1, 20, 21, 4, 22, 31, 32, 33, 34, 35, 36, 37, 38, 39, 40, 41, 42] (by decide +kernel) (by decide +kernel)
set_option maxRecDepth 20000 in
theorem gX6_peg_X6_hasPeg : GoodIn wsX6_peg (wsV RX6 50 RX6 yX6_hasPeg wsX6_hasPeg) := goodIn_app (goodIn_of _ (by decide +kernel)) ggX6_peg_X6_hasPeg
set_option maxRecDepth 20000 in
theorem ggX6_peg_X6_pegsIn : GoodIn wsX6_peg wsX6_pegsIn := goodIn_r _ [30, 23, 24, 25, 4, 26, 1, 20, 21, 22, 31, 32, 33, 34, 35, 36, 37, 38, 39, 40, 41, 42] (by decide +kernel) (by decide +kernel)
set_option maxRecDepth 20000 in
theorem gX6_peg_X6_pegsIn : GoodIn wsX6_peg (wsV RX6 54 RX6 yX6_pegsIn wsX6_pegsIn) := goodIn_app (goodIn_of _ (by decide +kernel)) ggX6_peg_X6_pegsIn
theorem dX6_peg_0 : decode cX6_peg 0 = .ok (.iload_n 1, 1) := by decide +kernel
theorem dX6_peg_1 : decode cX6_peg 1 = .ok (.invokestatic 94, 3) := by decide +kernel
theorem dX6_peg_4 : decode cX6_peg 4 = .ok (.ifCond .eq 10, 3) := by decide +kernel
theorem dX6_peg_7 : decode cX6_peg 7 = .ok (.iload_n 2, 1) := by decide +kernel
theorem dX6_peg_8 : decode cX6_peg 8 = .ok (.invokestatic 97, 3) := by decide +kernel
theorem dX6_peg_11 : decode cX6_peg 11 = .ok (.ifCond .ne 5, 3) := by decide +kernel
theorem dX6_peg_14 : decode cX6_peg 14 = .ok (.iconst (-1), 1) := by decide +kernel
theorem dX6_peg_15 : decode cX6_peg 15 = .ok (.ireturn, 1) := by decide +kernel
theorem dX6_peg_16 : decode cX6_peg 16 = .ok (.aload_n 0, 1) := by decide +kernel
theorem dX6_peg_17 : decode cX6_peg 17 = .ok (.invokevirtual 91, 3) := by decide +kernel
theorem dX6_peg_20 : decode cX6_peg 20 = .ok (.aload_n 0, 1) := by decide +kernel
theorem dX6_peg_21 : decode cX6_peg 21 = .ok (.getfield 7, 3) := by decide +kernel
theorem dX6_peg_24 : decode cX6_peg 24 = .ok (.iload_n 1, 1) := by decide +kernel
theorem dX6_peg_25 : decode cX6_peg 25 = .ok (.iload_n 2, 1) := by decide +kernel
theorem dX6_peg_26 : decode cX6_peg 26 = .ok (.invokestatic 46, 3) := by decide +kernel
theorem dX6_peg_29 : decode cX6_peg 29 = .ok (.aload_n 0, 1) := by decide +kernel
theorem dX6_peg_30 : decode cX6_peg 30 = .ok (.iload_n 1, 1) := by decide +kernel
theorem dX6_peg_31 : decode cX6_peg 31 = .ok (.iload_n 2, 1) := by decide +kernel
theorem dX6_peg_32 : decode cX6_peg 32 = .ok (.invokevirtual 50, 3) := by decide +kernel
theorem dX6_peg_35 : decode cX6_peg 35 = .ok (.ifCond .eq 8, 3) := by decide +kernel
theorem dX6_peg_38 : decode cX6_peg 38 = .ok (.bipush (-6), 2) := by decide +kernel
theorem dX6_peg_40 : decode cX6_peg 40 = .ok (.goto 4, 3) := by decide +kernel
theorem dX6_peg_43 : decode cX6_peg 43 = .ok (.iconst 0, 1) := by decide +kernel
theorem dX6_peg_44 : decode cX6_peg 44 = .ok (.iastore, 1) := by decide +kernel
theorem dX6_peg_45 : decode cX6_peg 45 = .ok (.aload_n 0, 1) := by decide +kernel
theorem dX6_peg_46 : decode cX6_peg 46 = .ok (.iload_n 1, 1) := by decide +kernel
theorem dX6_peg_47 : decode cX6_peg 47 = .ok (.invokevirtual 54, 3) := by decide +kernel
theorem dX6_peg_50 : decode cX6_peg 50 = .ok (.ireturn, 1) := by decide +kernel
set_option maxRecDepth 20000 in
theorem ggX6_order_X6_in : GoodIn wsX6_order wsX6_in := goodIn_r _ [6] (by decide +kernel) (by decide +kernel)
set_option maxRecDepth 20000 in
theorem gX6_order_X6_in : GoodIn wsX6_order (va_wsS RX6 40 yX6_in wsX6_in) := goodIn_app (goodIn_of _ (by decide +kernel)) ggX6_order_X6_in
set_option maxRecDepth 20000 in
theorem ggX6_order_X6_changes : GoodIn wsX6_order wsX6_changes := goodIn_r _ [10, 11, 12, 2, 13, 14, 15, 16, 17, 18, 19, 20, 21, 22, 23, 24] (by decide +kernel) (by decide +kernel)
set_option maxRecDepth 20000 in
theorem gX6_order_X6_changes : GoodIn wsX6_order (wsV RX6 91 RX6 yX6_changes wsX6_changes) := goodIn_app (goodIn_of _ (by decide +kernel)) ggX6_order_X6_changes
theorem dX6_order_0 : decode cX6_order 0 = .ok (.iload_n 1, 1) := by decide +kernel
theorem dX6_order_1 : decode cX6_order 1 = .ok (.i2l, 1) := by decide +kernel
theorem dX6_order_2 : decode cX6_order 2 = .ok (.lconst 0, 1) := by decide +kernel
theorem dX6_order_3 : decode cX6_order 3 = .ok (.ldc2_w 100, 3) := by decide +kernel
theorem dX6_order_6 : decode cX6_order 6 = .ok (.invokestatic 40, 3) := by decide +kernel
theorem dX6_order_9 : decode cX6_order 9 = .ok (.ifCond .ne 6, 3) := by decide +kernel
theorem dX6_order_12 : decode cX6_order 12 = .ok (.bipush (-2), 2) := by decide +kernel
theorem dX6_order_14 : decode cX6_order 14 = .ok (.ireturn, 1) := by decide +kernel
theorem dX6_order_15 : decode cX6_order 15 = .ok (.aload_n 0, 1) := by decide +kernel
theorem dX6_order_16 : decode cX6_order 16 = .ok (.invokevirtual 91, 3) := by decide +kernel
theorem dX6_order_19 : decode cX6_order 19 = .ok (.aload_n 0, 1) := by decide +kernel
theorem dX6_order_20 : decode cX6_order 20 = .ok (.getfield 7, 3) := by decide +kernel
theorem dX6_order_23 : decode cX6_order 23 = .ok (.bipush 6, 2) := by decide +kernel
theorem dX6_order_25 : decode cX6_order 25 = .ok (.iaload, 1) := by decide +kernel
theorem dX6_order_26 : decode cX6_order 26 = .ok (.istore_n 2, 1) := by decide +kernel
theorem dX6_order_27 : decode cX6_order 27 = .ok (.aload_n 0, 1) := by decide +kernel
theorem dX6_order_28 : decode cX6_order 28 = .ok (.getfield 7, 3) := by decide +kernel
theorem dX6_order_31 : decode cX6_order 31 = .ok (.bipush 6, 2) := by decide +kernel
theorem dX6_order_33 : decode cX6_order 33 = .ok (.iload_n 1, 1) := by decide +kernel
theorem dX6_order_34 : decode cX6_order 34 = .ok (.iastore, 1) := by decide +kernel
theorem dX6_order_35 : decode cX6_order 35 = .ok (.iload_n 2, 1) := by decide +kernel
theorem dX6_order_36 : decode cX6_order 36 = .ok (.ireturn, 1) := by decide +kernel
set_option maxRecDepth 20000 in
theorem ggX6_ink_X6_isPlace : GoodIn wsX6_ink wsX6_isPlace := goodIn_r _ [5, 6, 7, 8, 4, 9] (by decide +kernel) (by decide +kernel)
set_option maxRecDepth 20000 in
theorem gX6_ink_X6_isPlace : GoodIn wsX6_ink (va_wsS RX6 97 yX6_isPlace wsX6_isPlace) := goodIn_app (goodIn_of _ (by decide +kernel)) ggX6_ink_X6_isPlace
set_option maxRecDepth 20000 in
theorem ggX6_ink_X6_changes : GoodIn wsX6_ink wsX6_changes := goodIn_r _ [13, 14, 15, 1, 16, 17, 18, 19, 20, 21, 22, 23, 24, 25, 26, 27] (by decide +kernel) (by decide +kernel)
set_option maxRecDepth 20000 in
theorem gX6_ink_X6_changes : GoodIn wsX6_ink (wsV RX6 91 RX6 yX6_changes wsX6_changes) := goodIn_app (goodIn_of _ (by decide +kernel)) ggX6_ink_X6_changes
theorem dX6_ink_0 : decode cX6_ink 0 = .ok (.iload_n 1, 1) := by decide +kernel
theorem dX6_ink_1 : decode cX6_ink 1 = .ok (.invokestatic 97, 3) := by decide +kernel
theorem dX6_ink_4 : decode cX6_ink 4 = .ok (.ifCond .ne 5, 3) := by decide +kernel
theorem dX6_ink_7 : decode cX6_ink 7 = .ok (.iconst (-1), 1) := by decide +kernel
theorem dX6_ink_8 : decode cX6_ink 8 = .ok (.ireturn, 1) := by decide +kernel
theorem dX6_ink_9 : decode cX6_ink 9 = .ok (.aload_n 0, 1) := by decide +kernel
theorem dX6_ink_10 : decode cX6_ink 10 = .ok (.invokevirtual 91, 3) := by decide +kernel
theorem dX6_ink_13 : decode cX6_ink 13 = .ok (.bipush 99, 2) := by decide +kernel
theorem dX6_ink_15 : decode cX6_ink 15 = .ok (.aload_n 0, 1) := by decide +kernel
theorem dX6_ink_16 : decode cX6_ink 16 = .ok (.getfield 7, 3) := by decide +kernel
theorem dX6_ink_19 : decode cX6_ink 19 = .ok (.bipush 16, 2) := by decide +kernel
theorem dX6_ink_21 : decode cX6_ink 21 = .ok (.iload_n 1, 1) := by decide +kernel
theorem dX6_ink_22 : decode cX6_ink 22 = .ok (.iadd, 1) := by decide +kernel
theorem dX6_ink_23 : decode cX6_ink 23 = .ok (.iaload, 1) := by decide +kernel
theorem dX6_ink_24 : decode cX6_ink 24 = .ok (.isub, 1) := by decide +kernel
theorem dX6_ink_25 : decode cX6_ink 25 = .ok (.istore_n 2, 1) := by decide +kernel
theorem dX6_ink_26 : decode cX6_ink 26 = .ok (.aload_n 0, 1) := by decide +kernel
theorem dX6_ink_27 : decode cX6_ink 27 = .ok (.getfield 7, 3) := by decide +kernel
theorem dX6_ink_30 : decode cX6_ink 30 = .ok (.bipush 16, 2) := by decide +kernel
theorem dX6_ink_32 : decode cX6_ink 32 = .ok (.iload_n 1, 1) := by decide +kernel
theorem dX6_ink_33 : decode cX6_ink 33 = .ok (.iadd, 1) := by decide +kernel
theorem dX6_ink_34 : decode cX6_ink 34 = .ok (.bipush 99, 2) := by decide +kernel
theorem dX6_ink_36 : decode cX6_ink 36 = .ok (.iastore, 1) := by decide +kernel
theorem dX6_ink_37 : decode cX6_ink 37 = .ok (.iload_n 2, 1) := by decide +kernel
theorem dX6_ink_38 : decode cX6_ink 38 = .ok (.ireturn, 1) := by decide +kernel
set_option maxRecDepth 20000 in
theorem ggX6_step_X6_in : GoodIn wsX6_step wsX6_in := goodIn_r _ [7] (by decide +kernel) (by decide +kernel)
set_option maxRecDepth 20000 in
theorem gX6_step_X6_in : GoodIn wsX6_step (va_wsS RX6 40 yX6_in wsX6_in) := goodIn_app (goodIn_of _ (by decide +kernel)) ggX6_step_X6_in
set_option maxRecDepth 20000 in
theorem ggX6_step_X6_changes : GoodIn wsX6_step wsX6_changes := goodIn_r _ [11, 12, 13, 2, 53, 54, 55, 56, 57, 58, 59, 60, 61, 62, 63, 64] (by decide +kernel) (by decide +kernel)
set_option maxRecDepth 20000 in
theorem gX6_step_X6_changes : GoodIn wsX6_step (wsV RX6 91 RX6 yX6_changes wsX6_changes) := goodIn_app (goodIn_of _ (by decide +kernel)) ggX6_step_X6_changes
set_option maxRecDepth 20000 in
theorem ggX6_step_X6_stepsUpTo : GoodIn wsX6_step wsX6_stepsUpTo := goodIn_r _ [17, 18, 19, 20, 6, 21, 2, 22, 23, 24, 25, 26, 27, 28, 29, 30, 31, 32, 33, 34, 35, 36, 37, 38, 39, 40, 41, 42, 43, 44, 45, 46, 47, 48, 49, 50, 51, 52, 53, 54, 55, 56, 57, 58, 59, 60, 61, 62, 63, 64] (by decide +kernel) (by decide +kernel)
set_option maxRecDepth 20000 in
theorem gX6_step_X6_stepsUpTo : GoodIn wsX6_step (wsV RX6 105 RX6 yX6_stepsUpTo wsX6_stepsUpTo) := goodIn_app (goodIn_of _ (by decide +kernel)) ggX6_step_X6_stepsUpTo
theorem dX6_step_0 : decode cX6_step 0 = .ok (.iload_n 1, 1) := by decide +kernel
theorem dX6_step_1 : decode cX6_step 1 = .ok (.i2l, 1) := by decide +kernel
theorem dX6_step_2 : decode cX6_step 2 = .ok (.lconst 1, 1) := by decide +kernel
theorem dX6_step_3 : decode cX6_step 3 = .ok (.ldc2_w 102, 3) := by decide +kernel
theorem dX6_step_6 : decode cX6_step 6 = .ok (.invokestatic 40, 3) := by decide +kernel
theorem dX6_step_9 : decode cX6_step 9 = .ok (.ifCond .ne 6, 3) := by decide +kernel
theorem dX6_step_12 : decode cX6_step 12 = .ok (.bipush (-2), 2) := by decide +kernel
theorem dX6_step_14 : decode cX6_step 14 = .ok (.ireturn, 1) := by decide +kernel
theorem dX6_step_15 : decode cX6_step 15 = .ok (.aload_n 0, 1) := by decide +kernel
theorem dX6_step_16 : decode cX6_step 16 = .ok (.getfield 7, 3) := by decide +kernel
theorem dX6_step_19 : decode cX6_step 19 = .ok (.iconst 5, 1) := by decide +kernel
theorem dX6_step_20 : decode cX6_step 20 = .ok (.iaload, 1) := by decide +kernel
theorem dX6_step_21 : decode cX6_step 21 = .ok (.iconst 1, 1) := by decide +kernel
theorem dX6_step_22 : decode cX6_step 22 = .ok (.if_icmp .ne 6, 3) := by decide +kernel
theorem dX6_step_25 : decode cX6_step 25 = .ok (.bipush (-5), 2) := by decide +kernel
theorem dX6_step_27 : decode cX6_step 27 = .ok (.ireturn, 1) := by decide +kernel
theorem dX6_step_28 : decode cX6_step 28 = .ok (.aload_n 0, 1) := by decide +kernel
theorem dX6_step_29 : decode cX6_step 29 = .ok (.getfield 7, 3) := by decide +kernel
theorem dX6_step_32 : decode cX6_step 32 = .ok (.bipush 10, 2) := by decide +kernel
theorem dX6_step_34 : decode cX6_step 34 = .ok (.iaload, 1) := by decide +kernel
theorem dX6_step_35 : decode cX6_step 35 = .ok (.iload_n 1, 1) := by decide +kernel
theorem dX6_step_36 : decode cX6_step 36 = .ok (.iadd, 1) := by decide +kernel
theorem dX6_step_37 : decode cX6_step 37 = .ok (.ldc 104, 2) := by decide +kernel
theorem dX6_step_39 : decode cX6_step 39 = .ok (.if_icmp .le 6, 3) := by decide +kernel
theorem dX6_step_42 : decode cX6_step 42 = .ok (.bipush (-4), 2) := by decide +kernel
theorem dX6_step_44 : decode cX6_step 44 = .ok (.ireturn, 1) := by decide +kernel
theorem dX6_step_45 : decode cX6_step 45 = .ok (.aload_n 0, 1) := by decide +kernel
theorem dX6_step_46 : decode cX6_step 46 = .ok (.invokevirtual 91, 3) := by decide +kernel
theorem dX6_step_49 : decode cX6_step 49 = .ok (.aload_n 0, 1) := by decide +kernel
theorem dX6_step_50 : decode cX6_step 50 = .ok (.iload_n 1, 1) := by decide +kernel
theorem dX6_step_51 : decode cX6_step 51 = .ok (.invokevirtual 105, 3) := by decide +kernel
theorem dX6_step_54 : decode cX6_step 54 = .ok (.ireturn, 1) := by decide +kernel
set_option maxRecDepth 20000 in
theorem ggX6_free_X6_changes : GoodIn wsX6_free wsX6_changes := goodIn_r _ [6, 7, 8, 1, 9, 10, 11, 12, 13, 14, 15, 16, 17, 18, 19, 20] (by decide +kernel) (by decide +kernel)
set_option maxRecDepth 20000 in
theorem gX6_free_X6_changes : GoodIn wsX6_free (wsV RX6 91 RX6 yX6_changes wsX6_changes) := goodIn_app (goodIn_of _ (by decide +kernel)) ggX6_free_X6_changes
theorem dX6_free_0 : decode cX6_free 0 = .ok (.aload_n 0, 1) := by decide +kernel
theorem dX6_free_1 : decode cX6_free 1 = .ok (.getfield 7, 3) := by decide +kernel
theorem dX6_free_4 : decode cX6_free 4 = .ok (.iconst 5, 1) := by decide +kernel
theorem dX6_free_5 : decode cX6_free 5 = .ok (.iaload, 1) := by decide +kernel
theorem dX6_free_6 : decode cX6_free 6 = .ok (.ifCond .ne 6, 3) := by decide +kernel
theorem dX6_free_9 : decode cX6_free 9 = .ok (.bipush (-5), 2) := by decide +kernel
theorem dX6_free_11 : decode cX6_free 11 = .ok (.ireturn, 1) := by decide +kernel
theorem dX6_free_12 : decode cX6_free 12 = .ok (.aload_n 0, 1) := by decide +kernel
theorem dX6_free_13 : decode cX6_free 13 = .ok (.invokevirtual 91, 3) := by decide +kernel
theorem dX6_free_16 : decode cX6_free 16 = .ok (.aload_n 0, 1) := by decide +kernel
theorem dX6_free_17 : decode cX6_free 17 = .ok (.getfield 7, 3) := by decide +kernel
theorem dX6_free_20 : decode cX6_free 20 = .ok (.iconst 4, 1) := by decide +kernel
theorem dX6_free_21 : decode cX6_free 21 = .ok (.iaload, 1) := by decide +kernel
theorem dX6_free_22 : decode cX6_free 22 = .ok (.istore_n 1, 1) := by decide +kernel
theorem dX6_free_23 : decode cX6_free 23 = .ok (.aload_n 0, 1) := by decide +kernel
theorem dX6_free_24 : decode cX6_free 24 = .ok (.getfield 7, 3) := by decide +kernel
theorem dX6_free_27 : decode cX6_free 27 = .ok (.iconst 5, 1) := by decide +kernel
theorem dX6_free_28 : decode cX6_free 28 = .ok (.iconst 0, 1) := by decide +kernel
theorem dX6_free_29 : decode cX6_free 29 = .ok (.iastore, 1) := by decide +kernel
theorem dX6_free_30 : decode cX6_free 30 = .ok (.aload_n 0, 1) := by decide +kernel
theorem dX6_free_31 : decode cX6_free 31 = .ok (.getfield 7, 3) := by decide +kernel
theorem dX6_free_34 : decode cX6_free 34 = .ok (.iconst 4, 1) := by decide +kernel
theorem dX6_free_35 : decode cX6_free 35 = .ok (.iload_n 1, 1) := by decide +kernel
theorem dX6_free_36 : decode cX6_free 36 = .ok (.iconst 1, 1) := by decide +kernel
theorem dX6_free_37 : decode cX6_free 37 = .ok (.iadd, 1) := by decide +kernel
theorem dX6_free_38 : decode cX6_free 38 = .ok (.bipush 16, 2) := by decide +kernel
theorem dX6_free_40 : decode cX6_free 40 = .ok (.irem, 1) := by decide +kernel
theorem dX6_free_41 : decode cX6_free 41 = .ok (.iastore, 1) := by decide +kernel
theorem dX6_free_42 : decode cX6_free 42 = .ok (.iload_n 1, 1) := by decide +kernel
theorem dX6_free_43 : decode cX6_free 43 = .ok (.ireturn, 1) := by decide +kernel
set_option maxRecDepth 20000 in
theorem ggX6_newForm_X6_changes : GoodIn wsX6_newForm wsX6_changes := goodIn_r _ [6, 7, 8, 1, 13, 14, 15, 16, 17, 18, 19, 20, 21, 22, 23, 24] (by decide +kernel) (by decide +kernel)
set_option maxRecDepth 20000 in
theorem gX6_newForm_X6_changes : GoodIn wsX6_newForm (wsV RX6 91 RX6 yX6_changes wsX6_changes) := goodIn_app (goodIn_of _ (by decide +kernel)) ggX6_newForm_X6_changes
set_option maxRecDepth 20000 in
theorem ggX6_newForm_X6_newOne : GoodIn wsX6_newForm wsX6_newOne := goodIn_r _ [12, 1, 13, 14, 15, 16, 17, 18, 19, 20, 21, 22, 23, 24] (by decide +kernel) (by decide +kernel)
set_option maxRecDepth 20000 in
theorem gX6_newForm_X6_newOne : GoodIn wsX6_newForm (wsV RX6 58 RX6 yX6_newOne wsX6_newOne) := goodIn_app (goodIn_of _ (by decide +kernel)) ggX6_newForm_X6_newOne
theorem dX6_newForm_0 : decode cX6_newForm 0 = .ok (.aload_n 0, 1) := by decide +kernel
theorem dX6_newForm_1 : decode cX6_newForm 1 = .ok (.invokevirtual 91, 3) := by decide +kernel
theorem dX6_newForm_4 : decode cX6_newForm 4 = .ok (.aload_n 0, 1) := by decide +kernel
theorem dX6_newForm_5 : decode cX6_newForm 5 = .ok (.getfield 7, 3) := by decide +kernel
theorem dX6_newForm_8 : decode cX6_newForm 8 = .ok (.bipush 7, 2) := by decide +kernel
theorem dX6_newForm_10 : decode cX6_newForm 10 = .ok (.iaload, 1) := by decide +kernel
theorem dX6_newForm_11 : decode cX6_newForm 11 = .ok (.istore_n 1, 1) := by decide +kernel
theorem dX6_newForm_12 : decode cX6_newForm 12 = .ok (.aload_n 0, 1) := by decide +kernel
theorem dX6_newForm_13 : decode cX6_newForm 13 = .ok (.invokevirtual 58, 3) := by decide +kernel
theorem dX6_newForm_16 : decode cX6_newForm 16 = .ok (.iload_n 1, 1) := by decide +kernel
theorem dX6_newForm_17 : decode cX6_newForm 17 = .ok (.ireturn, 1) := by decide +kernel
set_option maxRecDepth 20000 in
theorem ggX6_row_X6_isRow : GoodIn wsX6_row wsX6_isRow := goodIn_r _ [5, 6, 7, 8, 4, 9] (by decide +kernel) (by decide +kernel)
set_option maxRecDepth 20000 in
theorem gX6_row_X6_isRow : GoodIn wsX6_row (va_wsS RX6 94 yX6_isRow wsX6_isRow) := goodIn_app (goodIn_of _ (by decide +kernel)) ggX6_row_X6_isRow
set_option maxRecDepth 20000 in
theorem ggX6_row_X6_setIn : GoodIn wsX6_row wsX6_setIn := goodIn_r _ [13, 14, 15, 16, 4, 17, 1, 18, 19, 20, 29, 30, 31, 32, 33, 34, 35, 36, 37, 38, 39, 40] (by decide +kernel) (by decide +kernel)
set_option maxRecDepth 20000 in
theorem gX6_row_X6_setIn : GoodIn wsX6_row (wsV RX6 108 RX6 yX6_setIn wsX6_setIn) := goodIn_app (goodIn_of _ (by decide +kernel)) ggX6_row_X6_setIn
set_option maxRecDepth 20000 in
theorem ggX6_row_X6_pegsIn : GoodIn wsX6_row wsX6_pegsIn := goodIn_r _ [24, 14, 15, 16, 4, 17, 1, 18, 19, 20, 29, 30, 31, 32, 33, 34, 35, 36, 37, 38, 39, 40] (by decide +kernel) (by decide +kernel)
set_option maxRecDepth 20000 in
theorem gX6_row_X6_pegsIn : GoodIn wsX6_row (wsV RX6 54 RX6 yX6_pegsIn wsX6_pegsIn) := goodIn_app (goodIn_of _ (by decide +kernel)) ggX6_row_X6_pegsIn
set_option maxRecDepth 20000 in
theorem ggX6_row_X6_wouldJam : GoodIn wsX6_row wsX6_wouldJam := goodIn_r _ [28, 1, 21, 22, 23, 4, 24, 14, 15, 16, 17, 18, 19, 20, 29, 30, 31, 32, 33, 34, 35, 36, 37, 38, 39, 40] (by decide +kernel) (by decide +kernel)
set_option maxRecDepth 20000 in
theorem gX6_row_X6_wouldJam : GoodIn wsX6_row (wsV RX6 61 RX6 yX6_wouldJam wsX6_wouldJam) := goodIn_app (goodIn_of _ (by decide +kernel)) ggX6_row_X6_wouldJam
theorem dX6_row_0 : decode cX6_row 0 = .ok (.iload_n 1, 1) := by decide +kernel
theorem dX6_row_1 : decode cX6_row 1 = .ok (.invokestatic 94, 3) := by decide +kernel
theorem dX6_row_4 : decode cX6_row 4 = .ok (.ifCond .ne 5, 3) := by decide +kernel
theorem dX6_row_7 : decode cX6_row 7 = .ok (.iconst (-1), 1) := by decide +kernel
theorem dX6_row_8 : decode cX6_row 8 = .ok (.ireturn, 1) := by decide +kernel
theorem dX6_row_9 : decode cX6_row 9 = .ok (.iload_n 2, 1) := by decide +kernel
theorem dX6_row_10 : decode cX6_row 10 = .ok (.tableswitch 71 0 3 #[30, 36, 42, 56], 30) := by decide +kernel
theorem dX6_row_40 : decode cX6_row 40 = .ok (.aload_n 0, 1) := by decide +kernel
theorem dX6_row_41 : decode cX6_row 41 = .ok (.iload_n 1, 1) := by decide +kernel
theorem dX6_row_42 : decode cX6_row 42 = .ok (.invokevirtual 108, 3) := by decide +kernel
theorem dX6_row_45 : decode cX6_row 45 = .ok (.ireturn, 1) := by decide +kernel
theorem dX6_row_46 : decode cX6_row 46 = .ok (.aload_n 0, 1) := by decide +kernel
theorem dX6_row_47 : decode cX6_row 47 = .ok (.iload_n 1, 1) := by decide +kernel
theorem dX6_row_48 : decode cX6_row 48 = .ok (.invokevirtual 54, 3) := by decide +kernel
theorem dX6_row_51 : decode cX6_row 51 = .ok (.ireturn, 1) := by decide +kernel
theorem dX6_row_52 : decode cX6_row 52 = .ok (.aload_n 0, 1) := by decide +kernel
theorem dX6_row_53 : decode cX6_row 53 = .ok (.iload_n 1, 1) := by decide +kernel
theorem dX6_row_54 : decode cX6_row 54 = .ok (.invokevirtual 61, 3) := by decide +kernel
theorem dX6_row_57 : decode cX6_row 57 = .ok (.ifCond .eq 7, 3) := by decide +kernel
theorem dX6_row_60 : decode cX6_row 60 = .ok (.iconst 1, 1) := by decide +kernel
theorem dX6_row_61 : decode cX6_row 61 = .ok (.goto 4, 3) := by decide +kernel
theorem dX6_row_64 : decode cX6_row 64 = .ok (.iconst 0, 1) := by decide +kernel
theorem dX6_row_65 : decode cX6_row 65 = .ok (.ireturn, 1) := by decide +kernel
theorem dX6_row_66 : decode cX6_row 66 = .ok (.iload_n 1, 1) := by decide +kernel
theorem dX6_row_67 : decode cX6_row 67 = .ok (.bipush 16, 2) := by decide +kernel
theorem dX6_row_69 : decode cX6_row 69 = .ok (.iadd, 1) := by decide +kernel
theorem dX6_row_70 : decode cX6_row 70 = .ok (.aload_n 0, 1) := by decide +kernel
theorem dX6_row_71 : decode cX6_row 71 = .ok (.getfield 7, 3) := by decide +kernel
theorem dX6_row_74 : decode cX6_row 74 = .ok (.iconst 4, 1) := by decide +kernel
theorem dX6_row_75 : decode cX6_row 75 = .ok (.iaload, 1) := by decide +kernel
theorem dX6_row_76 : decode cX6_row 76 = .ok (.isub, 1) := by decide +kernel
theorem dX6_row_77 : decode cX6_row 77 = .ok (.bipush 16, 2) := by decide +kernel
theorem dX6_row_79 : decode cX6_row 79 = .ok (.irem, 1) := by decide +kernel
theorem dX6_row_80 : decode cX6_row 80 = .ok (.ireturn, 1) := by decide +kernel
theorem dX6_row_81 : decode cX6_row 81 = .ok (.bipush (-2), 2) := by decide +kernel
theorem dX6_row_83 : decode cX6_row 83 = .ok (.ireturn, 1) := by decide +kernel
set_option maxRecDepth 20000 in
theorem ggX6_stamped_X6_isRow : GoodIn wsX6_stamped wsX6_isRow := goodIn_r _ [5, 6, 7, 8, 4, 9] (by decide +kernel) (by decide +kernel)
set_option maxRecDepth 20000 in
theorem gX6_stamped_X6_isRow : GoodIn wsX6_stamped (va_wsS RX6 94 yX6_isRow wsX6_isRow) := goodIn_app (goodIn_of _ (by decide +kernel)) ggX6_stamped_X6_isRow
set_option maxRecDepth 20000 in
theorem ggX6_stamped_X6_isPlace : GoodIn wsX6_stamped wsX6_isPlace := goodIn_r _ [12, 13, 7, 8, 4, 9] (by decide +kernel) (by decide +kernel)
set_option maxRecDepth 20000 in
theorem gX6_stamped_X6_isPlace : GoodIn wsX6_stamped (va_wsS RX6 97 yX6_isPlace wsX6_isPlace) := goodIn_app (goodIn_of _ (by decide +kernel)) ggX6_stamped_X6_isPlace
set_option maxRecDepth 20000 in
theorem ggX6_stamped_X6_at : GoodIn wsX6_stamped wsX6_at := goodIn_r _ [16] (by decide +kernel) (by decide +kernel)
set_option maxRecDepth 20000 in
theorem gX6_stamped_X6_at : GoodIn wsX6_stamped (va_wsS RX6 46 yX6_at wsX6_at) := goodIn_app (goodIn_of _ (by decide +kernel)) ggX6_stamped_X6_at
theorem dX6_stamped_0 : decode cX6_stamped 0 = .ok (.iload_n 1, 1) := by decide +kernel
theorem dX6_stamped_1 : decode cX6_stamped 1 = .ok (.invokestatic 94, 3) := by decide +kernel
theorem dX6_stamped_4 : decode cX6_stamped 4 = .ok (.ifCond .eq 23, 3) := by decide +kernel
theorem dX6_stamped_7 : decode cX6_stamped 7 = .ok (.iload_n 2, 1) := by decide +kernel
theorem dX6_stamped_8 : decode cX6_stamped 8 = .ok (.invokestatic 97, 3) := by decide +kernel
theorem dX6_stamped_11 : decode cX6_stamped 11 = .ok (.ifCond .eq 16, 3) := by decide +kernel
theorem dX6_stamped_14 : decode cX6_stamped 14 = .ok (.aload_n 0, 1) := by decide +kernel
theorem dX6_stamped_15 : decode cX6_stamped 15 = .ok (.getfield 7, 3) := by decide +kernel
theorem dX6_stamped_18 : decode cX6_stamped 18 = .ok (.iload_n 1, 1) := by decide +kernel
theorem dX6_stamped_19 : decode cX6_stamped 19 = .ok (.iload_n 2, 1) := by decide +kernel
theorem dX6_stamped_20 : decode cX6_stamped 20 = .ok (.invokestatic 46, 3) := by decide +kernel
theorem dX6_stamped_23 : decode cX6_stamped 23 = .ok (.iaload, 1) := by decide +kernel
theorem dX6_stamped_24 : decode cX6_stamped 24 = .ok (.goto 4, 3) := by decide +kernel
theorem dX6_stamped_27 : decode cX6_stamped 27 = .ok (.iconst (-1), 1) := by decide +kernel
theorem dX6_stamped_28 : decode cX6_stamped 28 = .ok (.ireturn, 1) := by decide +kernel
set_option maxRecDepth 20000 in
theorem ggX6_pegsOf_X6_hasPeg : GoodIn wsX6_pegsOf wsX6_hasPeg := goodIn_r _ [5, 6, 7, 8, 4, 9, 10, 11, 12, 13, 14, 15, 16, 17, 18, 19, 20, 21] (by decide +kernel) (by decide +kernel)
set_option maxRecDepth 20000 in
theorem gX6_pegsOf_X6_hasPeg : GoodIn wsX6_pegsOf (wsV RX6 50 RX6 yX6_hasPeg wsX6_hasPeg) := goodIn_app (goodIn_of _ (by decide +kernel)) ggX6_pegsOf_X6_hasPeg
theorem dX6_pegsOf_0 : decode cX6_pegsOf 0 = .ok (.iconst 0, 1) := by decide +kernel
theorem dX6_pegsOf_1 : decode cX6_pegsOf 1 = .ok (.istore_n 2, 1) := by decide +kernel
theorem dX6_pegsOf_2 : decode cX6_pegsOf 2 = .ok (.iconst 0, 1) := by decide +kernel
theorem dX6_pegsOf_3 : decode cX6_pegsOf 3 = .ok (.istore_n 3, 1) := by decide +kernel
theorem dX6_pegsOf_4 : decode cX6_pegsOf 4 = .ok (.iload_n 3, 1) := by decide +kernel
theorem dX6_pegsOf_5 : decode cX6_pegsOf 5 = .ok (.bipush 16, 2) := by decide +kernel
theorem dX6_pegsOf_7 : decode cX6_pegsOf 7 = .ok (.if_icmp .ge 26, 3) := by decide +kernel
theorem dX6_pegsOf_10 : decode cX6_pegsOf 10 = .ok (.iload_n 2, 1) := by decide +kernel
theorem dX6_pegsOf_11 : decode cX6_pegsOf 11 = .ok (.aload_n 0, 1) := by decide +kernel
theorem dX6_pegsOf_12 : decode cX6_pegsOf 12 = .ok (.iload_n 3, 1) := by decide +kernel
theorem dX6_pegsOf_13 : decode cX6_pegsOf 13 = .ok (.iload_n 1, 1) := by decide +kernel
theorem dX6_pegsOf_14 : decode cX6_pegsOf 14 = .ok (.invokevirtual 50, 3) := by decide +kernel
theorem dX6_pegsOf_17 : decode cX6_pegsOf 17 = .ok (.ifCond .eq 7, 3) := by decide +kernel
theorem dX6_pegsOf_20 : decode cX6_pegsOf 20 = .ok (.iconst 1, 1) := by decide +kernel
theorem dX6_pegsOf_21 : decode cX6_pegsOf 21 = .ok (.goto 4, 3) := by decide +kernel
theorem dX6_pegsOf_24 : decode cX6_pegsOf 24 = .ok (.iconst 0, 1) := by decide +kernel
theorem dX6_pegsOf_25 : decode cX6_pegsOf 25 = .ok (.iadd, 1) := by decide +kernel
theorem dX6_pegsOf_26 : decode cX6_pegsOf 26 = .ok (.istore_n 2, 1) := by decide +kernel
theorem dX6_pegsOf_27 : decode cX6_pegsOf 27 = .ok (.iinc 3 1, 3) := by decide +kernel
theorem dX6_pegsOf_30 : decode cX6_pegsOf 30 = .ok (.goto (-26), 3) := by decide +kernel
theorem dX6_pegsOf_33 : decode cX6_pegsOf 33 = .ok (.iload_n 2, 1) := by decide +kernel
theorem dX6_pegsOf_34 : decode cX6_pegsOf 34 = .ok (.ireturn, 1) := by decide +kernel
set_option maxRecDepth 20000 in
theorem ggX6_stamp_X6_isPlace : GoodIn wsX6_stamp wsX6_isPlace := goodIn_r _ [5, 6, 7, 8, 4, 9] (by decide +kernel) (by decide +kernel)
set_option maxRecDepth 20000 in
theorem gX6_stamp_X6_isPlace : GoodIn wsX6_stamp (va_wsS RX6 97 yX6_isPlace wsX6_isPlace) := goodIn_app (goodIn_of _ (by decide +kernel)) ggX6_stamp_X6_isPlace
set_option maxRecDepth 20000 in
theorem ggX6_stamp_X6_pegsOf : GoodIn wsX6_stamp wsX6_pegsOf := goodIn_r _ [13, 14, 15, 16, 4, 17, 1, 18, 19, 20, 21, 22, 23, 24, 25, 26, 27, 28, 29, 30, 31, 32] (by decide +kernel) (by decide +kernel)
set_option maxRecDepth 20000 in
theorem gX6_stamp_X6_pegsOf : GoodIn wsX6_stamp (wsV RX6 111 RX6 yX6_pegsOf wsX6_pegsOf) := goodIn_app (goodIn_of _ (by decide +kernel)) ggX6_stamp_X6_pegsOf
theorem dX6_stamp_0 : decode cX6_stamp 0 = .ok (.iload_n 1, 1) := by decide +kernel
theorem dX6_stamp_1 : decode cX6_stamp 1 = .ok (.invokestatic 97, 3) := by decide +kernel
theorem dX6_stamp_4 : decode cX6_stamp 4 = .ok (.ifCond .ne 5, 3) := by decide +kernel
theorem dX6_stamp_7 : decode cX6_stamp 7 = .ok (.iconst (-1), 1) := by decide +kernel
theorem dX6_stamp_8 : decode cX6_stamp 8 = .ok (.ireturn, 1) := by decide +kernel
theorem dX6_stamp_9 : decode cX6_stamp 9 = .ok (.iload_n 2, 1) := by decide +kernel
theorem dX6_stamp_10 : decode cX6_stamp 10 = .ok (.tableswitch 65 0 4 #[34, 34, 34, 49, 55], 34) := by decide +kernel
theorem dX6_stamp_44 : decode cX6_stamp 44 = .ok (.aload_n 0, 1) := by decide +kernel
theorem dX6_stamp_45 : decode cX6_stamp 45 = .ok (.getfield 7, 3) := by decide +kernel
theorem dX6_stamp_48 : decode cX6_stamp 48 = .ok (.bipush 16, 2) := by decide +kernel
theorem dX6_stamp_50 : decode cX6_stamp 50 = .ok (.bipush 6, 2) := by decide +kernel
theorem dX6_stamp_52 : decode cX6_stamp 52 = .ok (.iload_n 2, 1) := by decide +kernel
theorem dX6_stamp_53 : decode cX6_stamp 53 = .ok (.imul, 1) := by decide +kernel
theorem dX6_stamp_54 : decode cX6_stamp 54 = .ok (.iadd, 1) := by decide +kernel
theorem dX6_stamp_55 : decode cX6_stamp 55 = .ok (.iload_n 1, 1) := by decide +kernel
theorem dX6_stamp_56 : decode cX6_stamp 56 = .ok (.iadd, 1) := by decide +kernel
theorem dX6_stamp_57 : decode cX6_stamp 57 = .ok (.iaload, 1) := by decide +kernel
theorem dX6_stamp_58 : decode cX6_stamp 58 = .ok (.ireturn, 1) := by decide +kernel
theorem dX6_stamp_59 : decode cX6_stamp 59 = .ok (.aload_n 0, 1) := by decide +kernel
theorem dX6_stamp_60 : decode cX6_stamp 60 = .ok (.iload_n 1, 1) := by decide +kernel
theorem dX6_stamp_61 : decode cX6_stamp 61 = .ok (.invokevirtual 111, 3) := by decide +kernel
theorem dX6_stamp_64 : decode cX6_stamp 64 = .ok (.ireturn, 1) := by decide +kernel
theorem dX6_stamp_65 : decode cX6_stamp 65 = .ok (.aload_n 0, 1) := by decide +kernel
theorem dX6_stamp_66 : decode cX6_stamp 66 = .ok (.getfield 7, 3) := by decide +kernel
theorem dX6_stamp_69 : decode cX6_stamp 69 = .ok (.bipush 34, 2) := by decide +kernel
theorem dX6_stamp_71 : decode cX6_stamp 71 = .ok (.iload_n 1, 1) := by decide +kernel
theorem dX6_stamp_72 : decode cX6_stamp 72 = .ok (.iadd, 1) := by decide +kernel
theorem dX6_stamp_73 : decode cX6_stamp 73 = .ok (.iaload, 1) := by decide +kernel
theorem dX6_stamp_74 : decode cX6_stamp 74 = .ok (.ireturn, 1) := by decide +kernel
theorem dX6_stamp_75 : decode cX6_stamp 75 = .ok (.bipush (-2), 2) := by decide +kernel
theorem dX6_stamp_77 : decode cX6_stamp 77 = .ok (.ireturn, 1) := by decide +kernel
theorem dX6_marks_0 : decode cX6_marks 0 = .ok (.iconst 0, 1) := by decide +kernel
theorem dX6_marks_1 : decode cX6_marks 1 = .ok (.istore_n 1, 1) := by decide +kernel
theorem dX6_marks_2 : decode cX6_marks 2 = .ok (.iconst 0, 1) := by decide +kernel
theorem dX6_marks_3 : decode cX6_marks 3 = .ok (.istore_n 2, 1) := by decide +kernel
theorem dX6_marks_4 : decode cX6_marks 4 = .ok (.iload_n 2, 1) := by decide +kernel
theorem dX6_marks_5 : decode cX6_marks 5 = .ok (.bipush 6, 2) := by decide +kernel
theorem dX6_marks_7 : decode cX6_marks 7 = .ok (.if_icmp .ge 21, 3) := by decide +kernel
theorem dX6_marks_10 : decode cX6_marks 10 = .ok (.iload_n 1, 1) := by decide +kernel
theorem dX6_marks_11 : decode cX6_marks 11 = .ok (.aload_n 0, 1) := by decide +kernel
theorem dX6_marks_12 : decode cX6_marks 12 = .ok (.getfield 7, 3) := by decide +kernel
theorem dX6_marks_15 : decode cX6_marks 15 = .ok (.bipush 22, 2) := by decide +kernel
theorem dX6_marks_17 : decode cX6_marks 17 = .ok (.iload_n 2, 1) := by decide +kernel
theorem dX6_marks_18 : decode cX6_marks 18 = .ok (.iadd, 1) := by decide +kernel
theorem dX6_marks_19 : decode cX6_marks 19 = .ok (.iaload, 1) := by decide +kernel
theorem dX6_marks_20 : decode cX6_marks 20 = .ok (.iadd, 1) := by decide +kernel
theorem dX6_marks_21 : decode cX6_marks 21 = .ok (.istore_n 1, 1) := by decide +kernel
theorem dX6_marks_22 : decode cX6_marks 22 = .ok (.iinc 2 1, 3) := by decide +kernel
theorem dX6_marks_25 : decode cX6_marks 25 = .ok (.goto (-21), 3) := by decide +kernel
theorem dX6_marks_28 : decode cX6_marks 28 = .ok (.iload_n 1, 1) := by decide +kernel
theorem dX6_marks_29 : decode cX6_marks 29 = .ok (.ireturn, 1) := by decide +kernel
set_option maxRecDepth 20000 in
theorem ggX6_count_X6_pegs : GoodIn wsX6_count wsX6_pegs := goodIn_r _ [9, 10, 11, 12, 8, 13, 14, 15, 16, 17, 1, 18, 19, 20, 28, 29, 30, 31, 32, 33, 34, 35, 36, 37, 38, 39] (by decide +kernel) (by decide +kernel)
set_option maxRecDepth 20000 in
theorem gX6_count_X6_pegs : GoodIn wsX6_count (wsV RX6 114 RX6 yX6_pegs wsX6_pegs) := goodIn_app (goodIn_of _ (by decide +kernel)) ggX6_count_X6_pegs
set_option maxRecDepth 20000 in
theorem ggX6_count_X6_marks : GoodIn wsX6_count wsX6_marks := goodIn_r _ [24, 1, 28, 29, 30, 31, 32, 33, 34, 35, 36, 37, 38, 39] (by decide +kernel) (by decide +kernel)
set_option maxRecDepth 20000 in
theorem gX6_count_X6_marks : GoodIn wsX6_count (wsV RX6 118 RX6 yX6_marks wsX6_marks) := goodIn_app (goodIn_of _ (by decide +kernel)) ggX6_count_X6_marks
set_option maxRecDepth 20000 in
theorem ggX6_count_X6_in : GoodIn wsX6_count wsX6_in := goodIn_r _ [27] (by decide +kernel) (by decide +kernel)
set_option maxRecDepth 20000 in
theorem gX6_count_X6_in : GoodIn wsX6_count (va_wsS RX6 40 yX6_in wsX6_in) := goodIn_app (goodIn_of _ (by decide +kernel)) ggX6_count_X6_in
theorem dX6_count_0 : decode cX6_count 0 = .ok (.iload_n 1, 1) := by decide +kernel
theorem dX6_count_1 : decode cX6_count 1 = .ok (.tableswitch 63 15 19 #[35, 40, 48, 53, 58], 35) := by decide +kernel
theorem dX6_count_36 : decode cX6_count 36 = .ok (.aload_n 0, 1) := by decide +kernel
theorem dX6_count_37 : decode cX6_count 37 = .ok (.invokevirtual 114, 3) := by decide +kernel
theorem dX6_count_40 : decode cX6_count 40 = .ok (.ireturn, 1) := by decide +kernel
theorem dX6_count_41 : decode cX6_count 41 = .ok (.aload_n 0, 1) := by decide +kernel
theorem dX6_count_42 : decode cX6_count 42 = .ok (.getfield 7, 3) := by decide +kernel
theorem dX6_count_45 : decode cX6_count 45 = .ok (.bipush 15, 2) := by decide +kernel
theorem dX6_count_47 : decode cX6_count 47 = .ok (.iaload, 1) := by decide +kernel
theorem dX6_count_48 : decode cX6_count 48 = .ok (.ireturn, 1) := by decide +kernel
theorem dX6_count_49 : decode cX6_count 49 = .ok (.aload_n 0, 1) := by decide +kernel
theorem dX6_count_50 : decode cX6_count 50 = .ok (.invokevirtual 118, 3) := by decide +kernel
theorem dX6_count_53 : decode cX6_count 53 = .ok (.ireturn, 1) := by decide +kernel
theorem dX6_count_54 : decode cX6_count 54 = .ok (.aload_n 0, 1) := by decide +kernel
theorem dX6_count_55 : decode cX6_count 55 = .ok (.getfield 121, 3) := by decide +kernel
theorem dX6_count_58 : decode cX6_count 58 = .ok (.ireturn, 1) := by decide +kernel
theorem dX6_count_59 : decode cX6_count 59 = .ok (.aload_n 0, 1) := by decide +kernel
theorem dX6_count_60 : decode cX6_count 60 = .ok (.getfield 34, 3) := by decide +kernel
theorem dX6_count_63 : decode cX6_count 63 = .ok (.ireturn, 1) := by decide +kernel
theorem dX6_count_64 : decode cX6_count 64 = .ok (.iload_n 1, 1) := by decide +kernel
theorem dX6_count_65 : decode cX6_count 65 = .ok (.i2l, 1) := by decide +kernel
theorem dX6_count_66 : decode cX6_count 66 = .ok (.lconst 0, 1) := by decide +kernel
theorem dX6_count_67 : decode cX6_count 67 = .ok (.ldc2_w 124, 3) := by decide +kernel
theorem dX6_count_70 : decode cX6_count 70 = .ok (.invokestatic 40, 3) := by decide +kernel
theorem dX6_count_73 : decode cX6_count 73 = .ok (.ifCond .eq 12, 3) := by decide +kernel
theorem dX6_count_76 : decode cX6_count 76 = .ok (.aload_n 0, 1) := by decide +kernel
theorem dX6_count_77 : decode cX6_count 77 = .ok (.getfield 7, 3) := by decide +kernel
theorem dX6_count_80 : decode cX6_count 80 = .ok (.iload_n 1, 1) := by decide +kernel
theorem dX6_count_81 : decode cX6_count 81 = .ok (.iaload, 1) := by decide +kernel
theorem dX6_count_82 : decode cX6_count 82 = .ok (.goto 5, 3) := by decide +kernel
theorem dX6_count_85 : decode cX6_count 85 = .ok (.bipush (-2), 2) := by decide +kernel
theorem dX6_count_87 : decode cX6_count 87 = .ok (.ireturn, 1) := by decide +kernel
set_option maxRecDepth 20000 in
theorem ggX6_untilJam_X6_keeps : GoodIn wsX6_untilJam wsX6_keeps := goodIn_r _ [5, 6, 7, 51, 52, 53, 54, 55, 56, 57, 58, 59, 60, 61, 62] (by decide +kernel) (by decide +kernel)
set_option maxRecDepth 20000 in
theorem gX6_untilJam_X6_keeps : GoodIn wsX6_untilJam (wsV RX6 126 RX6 yX6_keeps wsX6_keeps) := goodIn_app (goodIn_of _ (by decide +kernel)) ggX6_untilJam_X6_keeps
set_option maxRecDepth 20000 in
theorem ggX6_untilJam_X6_stepsUpTo : GoodIn wsX6_untilJam wsX6_stepsUpTo := goodIn_r _ [11, 12, 13, 14, 4, 15, 7, 16, 17, 18, 19, 20, 21, 22, 23, 24, 25, 26, 27, 28, 29, 30, 31, 32, 33, 34, 35, 36, 37, 38, 39, 40, 41, 42, 43, 44, 45, 46, 51, 52, 53, 54, 55, 56, 57, 58, 59, 60, 61, 62] (by decide +kernel) (by decide +kernel)
set_option maxRecDepth 20000 in
theorem gX6_untilJam_X6_stepsUpTo : GoodIn wsX6_untilJam (wsV RX6 105 RX6 yX6_stepsUpTo wsX6_stepsUpTo) := goodIn_app (goodIn_of _ (by decide +kernel)) ggX6_untilJam_X6_stepsUpTo
set_option maxRecDepth 20000 in
theorem ggX6_untilJam_X6_comesBack : GoodIn wsX6_untilJam wsX6_comesBack := goodIn_r _ [50, 7, 6, 51, 52, 53, 54, 55, 56, 57, 58, 59, 60, 61, 62] (by decide +kernel) (by decide +kernel)
set_option maxRecDepth 20000 in
theorem gX6_untilJam_X6_comesBack : GoodIn wsX6_untilJam (wsV RX6 129 RX6 yX6_comesBack wsX6_comesBack) := goodIn_app (goodIn_of _ (by decide +kernel)) ggX6_untilJam_X6_comesBack
theorem dX6_untilJam_0 : decode cX6_untilJam 0 = .ok (.aload_n 0, 1) := by decide +kernel
theorem dX6_untilJam_1 : decode cX6_untilJam 1 = .ok (.invokevirtual 126, 3) := by decide +kernel
theorem dX6_untilJam_4 : decode cX6_untilJam 4 = .ok (.aload_n 0, 1) := by decide +kernel
theorem dX6_untilJam_5 : decode cX6_untilJam 5 = .ok (.sipush 501, 3) := by decide +kernel
theorem dX6_untilJam_8 : decode cX6_untilJam 8 = .ok (.invokevirtual 105, 3) := by decide +kernel
theorem dX6_untilJam_11 : decode cX6_untilJam 11 = .ok (.istore_n 1, 1) := by decide +kernel
theorem dX6_untilJam_12 : decode cX6_untilJam 12 = .ok (.aload_n 0, 1) := by decide +kernel
theorem dX6_untilJam_13 : decode cX6_untilJam 13 = .ok (.invokevirtual 129, 3) := by decide +kernel
theorem dX6_untilJam_16 : decode cX6_untilJam 16 = .ok (.iload_n 1, 1) := by decide +kernel
theorem dX6_untilJam_17 : decode cX6_untilJam 17 = .ok (.sipush 500, 3) := by decide +kernel
theorem dX6_untilJam_20 : decode cX6_untilJam 20 = .ok (.if_icmp .le 8, 3) := by decide +kernel
theorem dX6_untilJam_23 : decode cX6_untilJam 23 = .ok (.bipush (-6), 2) := by decide +kernel
theorem dX6_untilJam_25 : decode cX6_untilJam 25 = .ok (.goto 4, 3) := by decide +kernel
theorem dX6_untilJam_28 : decode cX6_untilJam 28 = .ok (.iload_n 1, 1) := by decide +kernel
theorem dX6_untilJam_29 : decode cX6_untilJam 29 = .ok (.ireturn, 1) := by decide +kernel
set_option maxRecDepth 20000 in
theorem ggX6_ifStepped_X6_in : GoodIn wsX6_ifStepped wsX6_in := goodIn_r _ [8] (by decide +kernel) (by decide +kernel)
set_option maxRecDepth 20000 in
theorem gX6_ifStepped_X6_in : GoodIn wsX6_ifStepped (va_wsS RX6 40 yX6_in wsX6_in) := goodIn_app (goodIn_of _ (by decide +kernel)) ggX6_ifStepped_X6_in
set_option maxRecDepth 20000 in
theorem ggX6_ifStepped_X6_marks : GoodIn wsX6_ifStepped wsX6_marks := goodIn_r _ [12, 3, 60, 61, 62, 63, 64, 65, 66, 67, 68, 69, 70, 71] (by decide +kernel) (by decide +kernel)
set_option maxRecDepth 20000 in
theorem gX6_ifStepped_X6_marks : GoodIn wsX6_ifStepped (wsV RX6 118 RX6 yX6_marks wsX6_marks) := goodIn_app (goodIn_of _ (by decide +kernel)) ggX6_ifStepped_X6_marks
set_option maxRecDepth 20000 in
theorem ggX6_ifStepped_X6_keeps : GoodIn wsX6_ifStepped wsX6_keeps := goodIn_r _ [16, 4, 3, 60, 61, 62, 63, 64, 65, 66, 67, 68, 69, 70, 71] (by decide +kernel) (by decide +kernel)
set_option maxRecDepth 20000 in
theorem gX6_ifStepped_X6_keeps : GoodIn wsX6_ifStepped (wsV RX6 126 RX6 yX6_keeps wsX6_keeps) := goodIn_app (goodIn_of _ (by decide +kernel)) ggX6_ifStepped_X6_keeps
set_option maxRecDepth 20000 in
theorem ggX6_ifStepped_X6_stepsUpTo : GoodIn wsX6_ifStepped wsX6_stepsUpTo := goodIn_r _ [20, 21, 22, 23, 7, 24, 3, 25, 26, 27, 28, 29, 30, 31, 32, 33, 34, 35, 36, 37, 38, 39, 40, 41, 42, 43, 44, 45, 46, 47, 48, 49, 50, 51, 52, 53, 54, 55, 60, 61, 62, 63, 64, 65, 66, 67, 68, 69, 70, 71] (by decide +kernel) (by decide +kernel)
set_option maxRecDepth 20000 in
theorem gX6_ifStepped_X6_stepsUpTo : GoodIn wsX6_ifStepped (wsV RX6 105 RX6 yX6_stepsUpTo wsX6_stepsUpTo) := goodIn_app (goodIn_of _ (by decide +kernel)) ggX6_ifStepped_X6_stepsUpTo
set_option maxRecDepth 20000 in
theorem ggX6_ifStepped_X6_comesBack : GoodIn wsX6_ifStepped wsX6_comesBack := goodIn_r _ [59, 3, 4, 60, 61, 62, 63, 64, 65, 66, 67, 68, 69, 70, 71] (by decide +kernel) (by decide +kernel)
set_option maxRecDepth 20000 in
theorem gX6_ifStepped_X6_comesBack : GoodIn wsX6_ifStepped (wsV RX6 129 RX6 yX6_comesBack wsX6_comesBack) := goodIn_app (goodIn_of _ (by decide +kernel)) ggX6_ifStepped_X6_comesBack
theorem dX6_ifStepped_0 : decode cX6_ifStepped 0 = .ok (.iload_n 1, 1) := by decide +kernel
theorem dX6_ifStepped_1 : decode cX6_ifStepped 1 = .ok (.i2l, 1) := by decide +kernel
theorem dX6_ifStepped_2 : decode cX6_ifStepped 2 = .ok (.lconst 1, 1) := by decide +kernel
theorem dX6_ifStepped_3 : decode cX6_ifStepped 3 = .ok (.ldc2_w 132, 3) := by decide +kernel
theorem dX6_ifStepped_6 : decode cX6_ifStepped 6 = .ok (.invokestatic 40, 3) := by decide +kernel
theorem dX6_ifStepped_9 : decode cX6_ifStepped 9 = .ok (.ifCond .eq 15, 3) := by decide +kernel
theorem dX6_ifStepped_12 : decode cX6_ifStepped 12 = .ok (.iload_n 2, 1) := by decide +kernel
theorem dX6_ifStepped_13 : decode cX6_ifStepped 13 = .ok (.i2l, 1) := by decide +kernel
theorem dX6_ifStepped_14 : decode cX6_ifStepped 14 = .ok (.lconst 0, 1) := by decide +kernel
theorem dX6_ifStepped_15 : decode cX6_ifStepped 15 = .ok (.ldc2_w 86, 3) := by decide +kernel
theorem dX6_ifStepped_18 : decode cX6_ifStepped 18 = .ok (.invokestatic 40, 3) := by decide +kernel
theorem dX6_ifStepped_21 : decode cX6_ifStepped 21 = .ok (.ifCond .ne 6, 3) := by decide +kernel
theorem dX6_ifStepped_24 : decode cX6_ifStepped 24 = .ok (.bipush (-2), 2) := by decide +kernel
theorem dX6_ifStepped_26 : decode cX6_ifStepped 26 = .ok (.ireturn, 1) := by decide +kernel
theorem dX6_ifStepped_27 : decode cX6_ifStepped 27 = .ok (.aload_n 0, 1) := by decide +kernel
theorem dX6_ifStepped_28 : decode cX6_ifStepped 28 = .ok (.invokevirtual 118, 3) := by decide +kernel
theorem dX6_ifStepped_31 : decode cX6_ifStepped 31 = .ok (.istore_n 3, 1) := by decide +kernel
theorem dX6_ifStepped_32 : decode cX6_ifStepped 32 = .ok (.aload_n 0, 1) := by decide +kernel
theorem dX6_ifStepped_33 : decode cX6_ifStepped 33 = .ok (.invokevirtual 126, 3) := by decide +kernel
theorem dX6_ifStepped_36 : decode cX6_ifStepped 36 = .ok (.aload_n 0, 1) := by decide +kernel
theorem dX6_ifStepped_37 : decode cX6_ifStepped 37 = .ok (.iload_n 1, 1) := by decide +kernel
theorem dX6_ifStepped_38 : decode cX6_ifStepped 38 = .ok (.invokevirtual 105, 3) := by decide +kernel
theorem dX6_ifStepped_41 : decode cX6_ifStepped 41 = .ok (.istore 4, 2) := by decide +kernel
theorem dX6_ifStepped_43 : decode cX6_ifStepped 43 = .ok (.iload_n 2, 1) := by decide +kernel
theorem dX6_ifStepped_44 : decode cX6_ifStepped 44 = .ok (.ifCond .ne 8, 3) := by decide +kernel
theorem dX6_ifStepped_47 : decode cX6_ifStepped 47 = .ok (.iload 4, 2) := by decide +kernel
theorem dX6_ifStepped_49 : decode cX6_ifStepped 49 = .ok (.goto 40, 3) := by decide +kernel
theorem dX6_ifStepped_52 : decode cX6_ifStepped 52 = .ok (.iload_n 2, 1) := by decide +kernel
theorem dX6_ifStepped_53 : decode cX6_ifStepped 53 = .ok (.iconst 4, 1) := by decide +kernel
theorem dX6_ifStepped_54 : decode cX6_ifStepped 54 = .ok (.if_icmp .ne 12, 3) := by decide +kernel
theorem dX6_ifStepped_57 : decode cX6_ifStepped 57 = .ok (.aload_n 0, 1) := by decide +kernel
theorem dX6_ifStepped_58 : decode cX6_ifStepped 58 = .ok (.invokevirtual 118, 3) := by decide +kernel
theorem dX6_ifStepped_61 : decode cX6_ifStepped 61 = .ok (.iload_n 3, 1) := by decide +kernel
theorem dX6_ifStepped_62 : decode cX6_ifStepped 62 = .ok (.isub, 1) := by decide +kernel
theorem dX6_ifStepped_63 : decode cX6_ifStepped 63 = .ok (.goto 26, 3) := by decide +kernel
theorem dX6_ifStepped_66 : decode cX6_ifStepped 66 = .ok (.aload_n 0, 1) := by decide +kernel
theorem dX6_ifStepped_67 : decode cX6_ifStepped 67 = .ok (.getfield 7, 3) := by decide +kernel
theorem dX6_ifStepped_70 : decode cX6_ifStepped 70 = .ok (.bipush 11, 2) := by decide +kernel
theorem dX6_ifStepped_72 : decode cX6_ifStepped 72 = .ok (.iload_n 2, 1) := by decide +kernel
theorem dX6_ifStepped_73 : decode cX6_ifStepped 73 = .ok (.iadd, 1) := by decide +kernel
theorem dX6_ifStepped_74 : decode cX6_ifStepped 74 = .ok (.iconst 1, 1) := by decide +kernel
theorem dX6_ifStepped_75 : decode cX6_ifStepped 75 = .ok (.isub, 1) := by decide +kernel
theorem dX6_ifStepped_76 : decode cX6_ifStepped 76 = .ok (.iaload, 1) := by decide +kernel
theorem dX6_ifStepped_77 : decode cX6_ifStepped 77 = .ok (.aload_n 0, 1) := by decide +kernel
theorem dX6_ifStepped_78 : decode cX6_ifStepped 78 = .ok (.getfield 13, 3) := by decide +kernel
theorem dX6_ifStepped_81 : decode cX6_ifStepped 81 = .ok (.bipush 11, 2) := by decide +kernel
theorem dX6_ifStepped_83 : decode cX6_ifStepped 83 = .ok (.iload_n 2, 1) := by decide +kernel
theorem dX6_ifStepped_84 : decode cX6_ifStepped 84 = .ok (.iadd, 1) := by decide +kernel
theorem dX6_ifStepped_85 : decode cX6_ifStepped 85 = .ok (.iconst 1, 1) := by decide +kernel
theorem dX6_ifStepped_86 : decode cX6_ifStepped 86 = .ok (.isub, 1) := by decide +kernel
theorem dX6_ifStepped_87 : decode cX6_ifStepped 87 = .ok (.iaload, 1) := by decide +kernel
theorem dX6_ifStepped_88 : decode cX6_ifStepped 88 = .ok (.isub, 1) := by decide +kernel
theorem dX6_ifStepped_89 : decode cX6_ifStepped 89 = .ok (.istore 5, 2) := by decide +kernel
theorem dX6_ifStepped_91 : decode cX6_ifStepped 91 = .ok (.aload_n 0, 1) := by decide +kernel
theorem dX6_ifStepped_92 : decode cX6_ifStepped 92 = .ok (.invokevirtual 129, 3) := by decide +kernel
theorem dX6_ifStepped_95 : decode cX6_ifStepped 95 = .ok (.iload 5, 2) := by decide +kernel
theorem dX6_ifStepped_97 : decode cX6_ifStepped 97 = .ok (.ireturn, 1) := by decide +kernel
set_option maxRecDepth 20000 in
theorem ggX6_bestOut_X6_ifStepped : GoodIn wsX6_bestOut wsX6_ifStepped := goodIn_r _ [6, 7, 8, 1, 9, 10, 11, 5, 12, 13, 14, 15, 16, 17, 18, 19, 20, 21, 22, 23, 24, 25, 26, 27, 28, 29, 30, 31, 32, 33, 34, 35, 36, 37, 38, 39, 40, 41, 42, 43, 44, 45, 46, 47, 48, 49, 50, 51, 52, 53, 54, 55, 56, 57, 58, 59, 60, 61, 62, 63, 64, 65, 66, 67, 68, 69, 70, 71, 72, 73, 74, 75] (by decide +kernel) (by decide +kernel)
set_option maxRecDepth 20000 in
theorem gX6_bestOut_X6_ifStepped : GoodIn wsX6_bestOut (wsV RX6 134 RX6 yX6_ifStepped wsX6_ifStepped) := goodIn_app (goodIn_of _ (by decide +kernel)) ggX6_bestOut_X6_ifStepped
theorem dX6_bestOut_0 : decode cX6_bestOut 0 = .ok (.bipush (-6), 2) := by decide +kernel
theorem dX6_bestOut_2 : decode cX6_bestOut 2 = .ok (.istore_n 1, 1) := by decide +kernel
theorem dX6_bestOut_3 : decode cX6_bestOut 3 = .ok (.aload_n 0, 1) := by decide +kernel
theorem dX6_bestOut_4 : decode cX6_bestOut 4 = .ok (.bipush 64, 2) := by decide +kernel
theorem dX6_bestOut_6 : decode cX6_bestOut 6 = .ok (.iconst 1, 1) := by decide +kernel
theorem dX6_bestOut_7 : decode cX6_bestOut 7 = .ok (.invokevirtual 134, 3) := by decide +kernel
theorem dX6_bestOut_10 : decode cX6_bestOut 10 = .ok (.istore_n 2, 1) := by decide +kernel
theorem dX6_bestOut_11 : decode cX6_bestOut 11 = .ok (.iconst 0, 1) := by decide +kernel
theorem dX6_bestOut_12 : decode cX6_bestOut 12 = .ok (.istore_n 3, 1) := by decide +kernel
theorem dX6_bestOut_13 : decode cX6_bestOut 13 = .ok (.iload_n 3, 1) := by decide +kernel
theorem dX6_bestOut_14 : decode cX6_bestOut 14 = .ok (.bipush 96, 2) := by decide +kernel
theorem dX6_bestOut_16 : decode cX6_bestOut 16 = .ok (.if_icmp .ge 83, 3) := by decide +kernel
theorem dX6_bestOut_19 : decode cX6_bestOut 19 = .ok (.aload_n 0, 1) := by decide +kernel
theorem dX6_bestOut_20 : decode cX6_bestOut 20 = .ok (.getfield 7, 3) := by decide +kernel
theorem dX6_bestOut_23 : decode cX6_bestOut 23 = .ok (.bipush 40, 2) := by decide +kernel
theorem dX6_bestOut_25 : decode cX6_bestOut 25 = .ok (.iload_n 3, 1) := by decide +kernel
theorem dX6_bestOut_26 : decode cX6_bestOut 26 = .ok (.iadd, 1) := by decide +kernel
theorem dX6_bestOut_27 : decode cX6_bestOut 27 = .ok (.iaload, 1) := by decide +kernel
theorem dX6_bestOut_28 : decode cX6_bestOut 28 = .ok (.istore 4, 2) := by decide +kernel
theorem dX6_bestOut_30 : decode cX6_bestOut 30 = .ok (.iload 4, 2) := by decide +kernel
theorem dX6_bestOut_32 : decode cX6_bestOut 32 = .ok (.bipush (-6), 2) := by decide +kernel
theorem dX6_bestOut_34 : decode cX6_bestOut 34 = .ok (.if_icmp .eq 59, 3) := by decide +kernel
theorem dX6_bestOut_37 : decode cX6_bestOut 37 = .ok (.aload_n 0, 1) := by decide +kernel
theorem dX6_bestOut_38 : decode cX6_bestOut 38 = .ok (.getfield 7, 3) := by decide +kernel
theorem dX6_bestOut_41 : decode cX6_bestOut 41 = .ok (.bipush 40, 2) := by decide +kernel
theorem dX6_bestOut_43 : decode cX6_bestOut 43 = .ok (.iload_n 3, 1) := by decide +kernel
theorem dX6_bestOut_44 : decode cX6_bestOut 44 = .ok (.iadd, 1) := by decide +kernel
theorem dX6_bestOut_45 : decode cX6_bestOut 45 = .ok (.bipush (-6), 2) := by decide +kernel
theorem dX6_bestOut_47 : decode cX6_bestOut 47 = .ok (.iastore, 1) := by decide +kernel
theorem dX6_bestOut_48 : decode cX6_bestOut 48 = .ok (.aload_n 0, 1) := by decide +kernel
theorem dX6_bestOut_49 : decode cX6_bestOut 49 = .ok (.bipush 64, 2) := by decide +kernel
theorem dX6_bestOut_51 : decode cX6_bestOut 51 = .ok (.iconst 1, 1) := by decide +kernel
theorem dX6_bestOut_52 : decode cX6_bestOut 52 = .ok (.invokevirtual 134, 3) := by decide +kernel
theorem dX6_bestOut_55 : decode cX6_bestOut 55 = .ok (.istore 5, 2) := by decide +kernel
theorem dX6_bestOut_57 : decode cX6_bestOut 57 = .ok (.aload_n 0, 1) := by decide +kernel
theorem dX6_bestOut_58 : decode cX6_bestOut 58 = .ok (.getfield 7, 3) := by decide +kernel
theorem dX6_bestOut_61 : decode cX6_bestOut 61 = .ok (.bipush 40, 2) := by decide +kernel
theorem dX6_bestOut_63 : decode cX6_bestOut 63 = .ok (.iload_n 3, 1) := by decide +kernel
theorem dX6_bestOut_64 : decode cX6_bestOut 64 = .ok (.iadd, 1) := by decide +kernel
theorem dX6_bestOut_65 : decode cX6_bestOut 65 = .ok (.iload 4, 2) := by decide +kernel
theorem dX6_bestOut_67 : decode cX6_bestOut 67 = .ok (.iastore, 1) := by decide +kernel
theorem dX6_bestOut_68 : decode cX6_bestOut 68 = .ok (.iload 5, 2) := by decide +kernel
theorem dX6_bestOut_70 : decode cX6_bestOut 70 = .ok (.iload_n 2, 1) := by decide +kernel
theorem dX6_bestOut_71 : decode cX6_bestOut 71 = .ok (.if_icmp .le 7, 3) := by decide +kernel
theorem dX6_bestOut_74 : decode cX6_bestOut 74 = .ok (.iload_n 3, 1) := by decide +kernel
theorem dX6_bestOut_75 : decode cX6_bestOut 75 = .ok (.goto 4, 3) := by decide +kernel
theorem dX6_bestOut_78 : decode cX6_bestOut 78 = .ok (.iload_n 1, 1) := by decide +kernel
theorem dX6_bestOut_79 : decode cX6_bestOut 79 = .ok (.istore_n 1, 1) := by decide +kernel
theorem dX6_bestOut_80 : decode cX6_bestOut 80 = .ok (.iload 5, 2) := by decide +kernel
theorem dX6_bestOut_82 : decode cX6_bestOut 82 = .ok (.iload_n 2, 1) := by decide +kernel
theorem dX6_bestOut_83 : decode cX6_bestOut 83 = .ok (.if_icmp .le 8, 3) := by decide +kernel
theorem dX6_bestOut_86 : decode cX6_bestOut 86 = .ok (.iload 5, 2) := by decide +kernel
theorem dX6_bestOut_88 : decode cX6_bestOut 88 = .ok (.goto 4, 3) := by decide +kernel
theorem dX6_bestOut_91 : decode cX6_bestOut 91 = .ok (.iload_n 2, 1) := by decide +kernel
theorem dX6_bestOut_92 : decode cX6_bestOut 92 = .ok (.istore_n 2, 1) := by decide +kernel
theorem dX6_bestOut_93 : decode cX6_bestOut 93 = .ok (.iinc 3 1, 3) := by decide +kernel
theorem dX6_bestOut_96 : decode cX6_bestOut 96 = .ok (.goto (-83), 3) := by decide +kernel
theorem dX6_bestOut_99 : decode cX6_bestOut 99 = .ok (.iload_n 1, 1) := by decide +kernel
theorem dX6_bestOut_100 : decode cX6_bestOut 100 = .ok (.ireturn, 1) := by decide +kernel
set_option maxRecDepth 20000 in
theorem ggX6_nextStamps_X6_in : GoodIn wsX6_nextStamps wsX6_in := goodIn_r _ [5] (by decide +kernel) (by decide +kernel)
set_option maxRecDepth 20000 in
theorem gX6_nextStamps_X6_in : GoodIn wsX6_nextStamps (va_wsS RX6 40 yX6_in wsX6_in) := goodIn_app (goodIn_of _ (by decide +kernel)) ggX6_nextStamps_X6_in
set_option maxRecDepth 20000 in
theorem ggX6_nextStamps_X6_setIn : GoodIn wsX6_nextStamps wsX6_setIn := goodIn_r _ [9, 10, 11, 12, 4, 13, 1, 14, 15, 16, 17, 18, 19, 20, 21, 22, 23, 24, 25, 26, 27, 28] (by decide +kernel) (by decide +kernel)
set_option maxRecDepth 20000 in
theorem gX6_nextStamps_X6_setIn : GoodIn wsX6_nextStamps (wsV RX6 108 RX6 yX6_setIn wsX6_setIn) := goodIn_app (goodIn_of _ (by decide +kernel)) ggX6_nextStamps_X6_setIn
theorem dX6_nextStamps_0 : decode cX6_nextStamps 0 = .ok (.iload_n 1, 1) := by decide +kernel
theorem dX6_nextStamps_1 : decode cX6_nextStamps 1 = .ok (.i2l, 1) := by decide +kernel
theorem dX6_nextStamps_2 : decode cX6_nextStamps 2 = .ok (.lconst 0, 1) := by decide +kernel
theorem dX6_nextStamps_3 : decode cX6_nextStamps 3 = .ok (.lconst 1, 1) := by decide +kernel
theorem dX6_nextStamps_4 : decode cX6_nextStamps 4 = .ok (.invokestatic 40, 3) := by decide +kernel
theorem dX6_nextStamps_7 : decode cX6_nextStamps 7 = .ok (.ifCond .ne 6, 3) := by decide +kernel
theorem dX6_nextStamps_10 : decode cX6_nextStamps 10 = .ok (.bipush (-2), 2) := by decide +kernel
theorem dX6_nextStamps_12 : decode cX6_nextStamps 12 = .ok (.ireturn, 1) := by decide +kernel
theorem dX6_nextStamps_13 : decode cX6_nextStamps 13 = .ok (.iconst 0, 1) := by decide +kernel
theorem dX6_nextStamps_14 : decode cX6_nextStamps 14 = .ok (.istore_n 2, 1) := by decide +kernel
theorem dX6_nextStamps_15 : decode cX6_nextStamps 15 = .ok (.iconst 0, 1) := by decide +kernel
theorem dX6_nextStamps_16 : decode cX6_nextStamps 16 = .ok (.istore_n 3, 1) := by decide +kernel
theorem dX6_nextStamps_17 : decode cX6_nextStamps 17 = .ok (.iload_n 3, 1) := by decide +kernel
theorem dX6_nextStamps_18 : decode cX6_nextStamps 18 = .ok (.aload_n 0, 1) := by decide +kernel
theorem dX6_nextStamps_19 : decode cX6_nextStamps 19 = .ok (.getfield 7, 3) := by decide +kernel
theorem dX6_nextStamps_22 : decode cX6_nextStamps 22 = .ok (.iconst 0, 1) := by decide +kernel
theorem dX6_nextStamps_23 : decode cX6_nextStamps 23 = .ok (.iaload, 1) := by decide +kernel
theorem dX6_nextStamps_24 : decode cX6_nextStamps 24 = .ok (.if_icmp .ge 27, 3) := by decide +kernel
theorem dX6_nextStamps_27 : decode cX6_nextStamps 27 = .ok (.iload_n 2, 1) := by decide +kernel
theorem dX6_nextStamps_28 : decode cX6_nextStamps 28 = .ok (.aload_n 0, 1) := by decide +kernel
theorem dX6_nextStamps_29 : decode cX6_nextStamps 29 = .ok (.aload_n 0, 1) := by decide +kernel
theorem dX6_nextStamps_30 : decode cX6_nextStamps 30 = .ok (.getfield 7, 3) := by decide +kernel
theorem dX6_nextStamps_33 : decode cX6_nextStamps 33 = .ok (.iconst 4, 1) := by decide +kernel
theorem dX6_nextStamps_34 : decode cX6_nextStamps 34 = .ok (.iaload, 1) := by decide +kernel
theorem dX6_nextStamps_35 : decode cX6_nextStamps 35 = .ok (.iload_n 3, 1) := by decide +kernel
theorem dX6_nextStamps_36 : decode cX6_nextStamps 36 = .ok (.iadd, 1) := by decide +kernel
theorem dX6_nextStamps_37 : decode cX6_nextStamps 37 = .ok (.bipush 16, 2) := by decide +kernel
theorem dX6_nextStamps_39 : decode cX6_nextStamps 39 = .ok (.irem, 1) := by decide +kernel
theorem dX6_nextStamps_40 : decode cX6_nextStamps 40 = .ok (.invokevirtual 108, 3) := by decide +kernel
theorem dX6_nextStamps_43 : decode cX6_nextStamps 43 = .ok (.ior, 1) := by decide +kernel
theorem dX6_nextStamps_44 : decode cX6_nextStamps 44 = .ok (.istore_n 2, 1) := by decide +kernel
theorem dX6_nextStamps_45 : decode cX6_nextStamps 45 = .ok (.iinc 3 1, 3) := by decide +kernel
theorem dX6_nextStamps_48 : decode cX6_nextStamps 48 = .ok (.goto (-31), 3) := by decide +kernel
theorem dX6_nextStamps_51 : decode cX6_nextStamps 51 = .ok (.iload_n 2, 1) := by decide +kernel
theorem dX6_nextStamps_52 : decode cX6_nextStamps 52 = .ok (.ireturn, 1) := by decide +kernel
set_option maxRecDepth 20000 in
theorem ggX6_charactersOf_X6_in : GoodIn wsX6_charactersOf wsX6_in := goodIn_r _ [7] (by decide +kernel) (by decide +kernel)
set_option maxRecDepth 20000 in
theorem gX6_charactersOf_X6_in : GoodIn wsX6_charactersOf (va_wsS RX6 40 yX6_in wsX6_in) := goodIn_app (goodIn_of _ (by decide +kernel)) ggX6_charactersOf_X6_in
theorem dX6_charactersOf_0 : decode cX6_charactersOf 0 = .ok (.lload_n 0, 1) := by decide +kernel
theorem dX6_charactersOf_1 : decode cX6_charactersOf 1 = .ok (.lstore_n 2, 1) := by decide +kernel
theorem dX6_charactersOf_2 : decode cX6_charactersOf 2 = .ok (.iconst 0, 1) := by decide +kernel
theorem dX6_charactersOf_3 : decode cX6_charactersOf 3 = .ok (.istore 4, 2) := by decide +kernel
theorem dX6_charactersOf_5 : decode cX6_charactersOf 5 = .ok (.iload 4, 2) := by decide +kernel
theorem dX6_charactersOf_7 : decode cX6_charactersOf 7 = .ok (.bipush 8, 2) := by decide +kernel
theorem dX6_charactersOf_9 : decode cX6_charactersOf 9 = .ok (.if_icmp .ge 31, 3) := by decide +kernel
theorem dX6_charactersOf_12 : decode cX6_charactersOf 12 = .ok (.lload_n 2, 1) := by decide +kernel
theorem dX6_charactersOf_13 : decode cX6_charactersOf 13 = .ok (.ldc2_w 137, 3) := by decide +kernel
theorem dX6_charactersOf_16 : decode cX6_charactersOf 16 = .ok (.land, 1) := by decide +kernel
theorem dX6_charactersOf_17 : decode cX6_charactersOf 17 = .ok (.ldc2_w 139, 3) := by decide +kernel
theorem dX6_charactersOf_20 : decode cX6_charactersOf 20 = .ok (.ldc2_w 141, 3) := by decide +kernel
theorem dX6_charactersOf_23 : decode cX6_charactersOf 23 = .ok (.invokestatic 40, 3) := by decide +kernel
theorem dX6_charactersOf_26 : decode cX6_charactersOf 26 = .ok (.ifCond .eq 14, 3) := by decide +kernel
theorem dX6_charactersOf_29 : decode cX6_charactersOf 29 = .ok (.lload_n 2, 1) := by decide +kernel
theorem dX6_charactersOf_30 : decode cX6_charactersOf 30 = .ok (.bipush 8, 2) := by decide +kernel
theorem dX6_charactersOf_32 : decode cX6_charactersOf 32 = .ok (.lushr, 1) := by decide +kernel
theorem dX6_charactersOf_33 : decode cX6_charactersOf 33 = .ok (.lstore_n 2, 1) := by decide +kernel
theorem dX6_charactersOf_34 : decode cX6_charactersOf 34 = .ok (.iinc 4 1, 3) := by decide +kernel
theorem dX6_charactersOf_37 : decode cX6_charactersOf 37 = .ok (.goto (-32), 3) := by decide +kernel
theorem dX6_charactersOf_40 : decode cX6_charactersOf 40 = .ok (.lload_n 2, 1) := by decide +kernel
theorem dX6_charactersOf_41 : decode cX6_charactersOf 41 = .ok (.lconst 0, 1) := by decide +kernel
theorem dX6_charactersOf_42 : decode cX6_charactersOf 42 = .ok (.lcmp, 1) := by decide +kernel
theorem dX6_charactersOf_43 : decode cX6_charactersOf 43 = .ok (.ifCond .ne 8, 3) := by decide +kernel
theorem dX6_charactersOf_46 : decode cX6_charactersOf 46 = .ok (.iload 4, 2) := by decide +kernel
theorem dX6_charactersOf_48 : decode cX6_charactersOf 48 = .ok (.goto 4, 3) := by decide +kernel
theorem dX6_charactersOf_51 : decode cX6_charactersOf 51 = .ok (.iconst 0, 1) := by decide +kernel
theorem dX6_charactersOf_52 : decode cX6_charactersOf 52 = .ok (.ireturn, 1) := by decide +kernel
set_option maxRecDepth 20000 in
theorem ggX6_put_X6_charactersOf : GoodIn wsX6_put wsX6_charactersOf := goodIn_r _ [7, 3, 8, 9, 10, 11, 6, 12] (by decide +kernel) (by decide +kernel)
set_option maxRecDepth 20000 in
theorem gX6_put_X6_charactersOf : GoodIn wsX6_put (va_wsS RX6 143 yX6_charactersOf wsX6_charactersOf) := goodIn_app (goodIn_of _ (by decide +kernel)) ggX6_put_X6_charactersOf
theorem dX6_put_0 : decode cX6_put 0 = .ok (.lload_n 1, 1) := by decide +kernel
theorem dX6_put_1 : decode cX6_put 1 = .ok (.invokestatic 143, 3) := by decide +kernel
theorem dX6_put_4 : decode cX6_put 4 = .ok (.istore_n 3, 1) := by decide +kernel
theorem dX6_put_5 : decode cX6_put 5 = .ok (.iload_n 3, 1) := by decide +kernel
theorem dX6_put_6 : decode cX6_put 6 = .ok (.ifCond .ne 6, 3) := by decide +kernel
theorem dX6_put_9 : decode cX6_put 9 = .ok (.bipush (-2), 2) := by decide +kernel
theorem dX6_put_11 : decode cX6_put 11 = .ok (.ireturn, 1) := by decide +kernel
theorem dX6_put_12 : decode cX6_put 12 = .ok (.aload_n 0, 1) := by decide +kernel
theorem dX6_put_13 : decode cX6_put 13 = .ok (.getfield 121, 3) := by decide +kernel
theorem dX6_put_16 : decode cX6_put 16 = .ok (.iload_n 3, 1) := by decide +kernel
theorem dX6_put_17 : decode cX6_put 17 = .ok (.iadd, 1) := by decide +kernel
theorem dX6_put_18 : decode cX6_put 18 = .ok (.bipush 60, 2) := by decide +kernel
theorem dX6_put_20 : decode cX6_put 20 = .ok (.if_icmp .le 6, 3) := by decide +kernel
theorem dX6_put_23 : decode cX6_put 23 = .ok (.bipush (-4), 2) := by decide +kernel
theorem dX6_put_25 : decode cX6_put 25 = .ok (.ireturn, 1) := by decide +kernel
theorem dX6_put_26 : decode cX6_put 26 = .ok (.iconst 0, 1) := by decide +kernel
theorem dX6_put_27 : decode cX6_put 27 = .ok (.istore 4, 2) := by decide +kernel
theorem dX6_put_29 : decode cX6_put 29 = .ok (.iload 4, 2) := by decide +kernel
theorem dX6_put_31 : decode cX6_put 31 = .ok (.iload_n 3, 1) := by decide +kernel
theorem dX6_put_32 : decode cX6_put 32 = .ok (.if_icmp .ge 37, 3) := by decide +kernel
theorem dX6_put_35 : decode cX6_put 35 = .ok (.aload_n 0, 1) := by decide +kernel
theorem dX6_put_36 : decode cX6_put 36 = .ok (.getfield 25, 3) := by decide +kernel
theorem dX6_put_39 : decode cX6_put 39 = .ok (.aload_n 0, 1) := by decide +kernel
theorem dX6_put_40 : decode cX6_put 40 = .ok (.getfield 121, 3) := by decide +kernel
theorem dX6_put_43 : decode cX6_put 43 = .ok (.iload 4, 2) := by decide +kernel
theorem dX6_put_45 : decode cX6_put 45 = .ok (.iadd, 1) := by decide +kernel
theorem dX6_put_46 : decode cX6_put 46 = .ok (.lload_n 1, 1) := by decide +kernel
theorem dX6_put_47 : decode cX6_put 47 = .ok (.bipush 8, 2) := by decide +kernel
theorem dX6_put_49 : decode cX6_put 49 = .ok (.iload_n 3, 1) := by decide +kernel
theorem dX6_put_50 : decode cX6_put 50 = .ok (.iconst 1, 1) := by decide +kernel
theorem dX6_put_51 : decode cX6_put 51 = .ok (.isub, 1) := by decide +kernel
theorem dX6_put_52 : decode cX6_put 52 = .ok (.iload 4, 2) := by decide +kernel
theorem dX6_put_54 : decode cX6_put 54 = .ok (.isub, 1) := by decide +kernel
theorem dX6_put_55 : decode cX6_put 55 = .ok (.imul, 1) := by decide +kernel
theorem dX6_put_56 : decode cX6_put 56 = .ok (.lushr, 1) := by decide +kernel
theorem dX6_put_57 : decode cX6_put 57 = .ok (.ldc2_w 137, 3) := by decide +kernel
theorem dX6_put_60 : decode cX6_put 60 = .ok (.land, 1) := by decide +kernel
theorem dX6_put_61 : decode cX6_put 61 = .ok (.l2i, 1) := by decide +kernel
theorem dX6_put_62 : decode cX6_put 62 = .ok (.iastore, 1) := by decide +kernel
theorem dX6_put_63 : decode cX6_put 63 = .ok (.iinc 4 1, 3) := by decide +kernel
theorem dX6_put_66 : decode cX6_put 66 = .ok (.goto (-37), 3) := by decide +kernel
theorem dX6_put_69 : decode cX6_put 69 = .ok (.aload_n 0, 1) := by decide +kernel
theorem dX6_put_70 : decode cX6_put 70 = .ok (.dup, 1) := by decide +kernel
theorem dX6_put_71 : decode cX6_put 71 = .ok (.getfield 121, 3) := by decide +kernel
theorem dX6_put_74 : decode cX6_put 74 = .ok (.iload_n 3, 1) := by decide +kernel
theorem dX6_put_75 : decode cX6_put 75 = .ok (.iadd, 1) := by decide +kernel
theorem dX6_put_76 : decode cX6_put 76 = .ok (.putfield 121, 3) := by decide +kernel
theorem dX6_put_79 : decode cX6_put 79 = .ok (.aload_n 0, 1) := by decide +kernel
theorem dX6_put_80 : decode cX6_put 80 = .ok (.getfield 121, 3) := by decide +kernel
theorem dX6_put_83 : decode cX6_put 83 = .ok (.ireturn, 1) := by decide +kernel
theorem dX6_wipe_0 : decode cX6_wipe 0 = .ok (.aload_n 0, 1) := by decide +kernel
theorem dX6_wipe_1 : decode cX6_wipe 1 = .ok (.getfield 121, 3) := by decide +kernel
theorem dX6_wipe_4 : decode cX6_wipe 4 = .ok (.istore_n 1, 1) := by decide +kernel
theorem dX6_wipe_5 : decode cX6_wipe 5 = .ok (.aload_n 0, 1) := by decide +kernel
theorem dX6_wipe_6 : decode cX6_wipe 6 = .ok (.iconst 0, 1) := by decide +kernel
theorem dX6_wipe_7 : decode cX6_wipe 7 = .ok (.putfield 121, 3) := by decide +kernel
theorem dX6_wipe_10 : decode cX6_wipe 10 = .ok (.iload_n 1, 1) := by decide +kernel
theorem dX6_wipe_11 : decode cX6_wipe 11 = .ok (.ireturn, 1) := by decide +kernel
set_option maxRecDepth 20000 in
theorem ggX6_isHere_X6_in : GoodIn wsX6_isHere wsX6_in := goodIn_r _ [7] (by decide +kernel) (by decide +kernel)
set_option maxRecDepth 20000 in
theorem gX6_isHere_X6_in : GoodIn wsX6_isHere (va_wsS RX6 40 yX6_in wsX6_in) := goodIn_app (goodIn_of _ (by decide +kernel)) ggX6_isHere_X6_in
theorem dX6_isHere_0 : decode cX6_isHere 0 = .ok (.aload_n 0, 1) := by decide +kernel
theorem dX6_isHere_1 : decode cX6_isHere 1 = .ok (.getfield 147, 3) := by decide +kernel
theorem dX6_isHere_4 : decode cX6_isHere 4 = .ok (.aload_n 0, 1) := by decide +kernel
theorem dX6_isHere_5 : decode cX6_isHere 5 = .ok (.getfield 121, 3) := by decide +kernel
theorem dX6_isHere_8 : decode cX6_isHere 8 = .ok (.if_icmp .ge 27, 3) := by decide +kernel
theorem dX6_isHere_11 : decode cX6_isHere 11 = .ok (.aload_n 0, 1) := by decide +kernel
theorem dX6_isHere_12 : decode cX6_isHere 12 = .ok (.getfield 25, 3) := by decide +kernel
theorem dX6_isHere_15 : decode cX6_isHere 15 = .ok (.aload_n 0, 1) := by decide +kernel
theorem dX6_isHere_16 : decode cX6_isHere 16 = .ok (.getfield 147, 3) := by decide +kernel
theorem dX6_isHere_19 : decode cX6_isHere 19 = .ok (.iaload, 1) := by decide +kernel
theorem dX6_isHere_20 : decode cX6_isHere 20 = .ok (.i2l, 1) := by decide +kernel
theorem dX6_isHere_21 : decode cX6_isHere 21 = .ok (.iload_n 1, 1) := by decide +kernel
theorem dX6_isHere_22 : decode cX6_isHere 22 = .ok (.i2l, 1) := by decide +kernel
theorem dX6_isHere_23 : decode cX6_isHere 23 = .ok (.iload_n 2, 1) := by decide +kernel
theorem dX6_isHere_24 : decode cX6_isHere 24 = .ok (.i2l, 1) := by decide +kernel
theorem dX6_isHere_25 : decode cX6_isHere 25 = .ok (.invokestatic 40, 3) := by decide +kernel
theorem dX6_isHere_28 : decode cX6_isHere 28 = .ok (.ifCond .eq 7, 3) := by decide +kernel
theorem dX6_isHere_31 : decode cX6_isHere 31 = .ok (.iconst 1, 1) := by decide +kernel
theorem dX6_isHere_32 : decode cX6_isHere 32 = .ok (.goto 4, 3) := by decide +kernel
theorem dX6_isHere_35 : decode cX6_isHere 35 = .ok (.iconst 0, 1) := by decide +kernel
theorem dX6_isHere_36 : decode cX6_isHere 36 = .ok (.ireturn, 1) := by decide +kernel
set_option maxRecDepth 20000 in
theorem ggX6_takesOne_X6_isHere : GoodIn wsX6_takesOne wsX6_isHere := goodIn_r _ [6, 1, 7, 8, 9, 10, 5, 11, 12, 13, 14, 15, 16, 17, 18, 19, 20, 21, 22, 23] (by decide +kernel) (by decide +kernel)
set_option maxRecDepth 20000 in
theorem gX6_takesOne_X6_isHere : GoodIn wsX6_takesOne (wsV RX6 150 RX6 yX6_isHere wsX6_isHere) := goodIn_app (goodIn_of _ (by decide +kernel)) ggX6_takesOne_X6_isHere
theorem dX6_takesOne_0 : decode cX6_takesOne 0 = .ok (.aload_n 0, 1) := by decide +kernel
theorem dX6_takesOne_1 : decode cX6_takesOne 1 = .ok (.iload_n 1, 1) := by decide +kernel
theorem dX6_takesOne_2 : decode cX6_takesOne 2 = .ok (.iload_n 1, 1) := by decide +kernel
theorem dX6_takesOne_3 : decode cX6_takesOne 3 = .ok (.invokevirtual 150, 3) := by decide +kernel
theorem dX6_takesOne_6 : decode cX6_takesOne 6 = .ok (.istore_n 2, 1) := by decide +kernel
theorem dX6_takesOne_7 : decode cX6_takesOne 7 = .ok (.aload_n 0, 1) := by decide +kernel
theorem dX6_takesOne_8 : decode cX6_takesOne 8 = .ok (.dup, 1) := by decide +kernel
theorem dX6_takesOne_9 : decode cX6_takesOne 9 = .ok (.getfield 147, 3) := by decide +kernel
theorem dX6_takesOne_12 : decode cX6_takesOne 12 = .ok (.iload_n 2, 1) := by decide +kernel
theorem dX6_takesOne_13 : decode cX6_takesOne 13 = .ok (.ifCond .eq 7, 3) := by decide +kernel
theorem dX6_takesOne_16 : decode cX6_takesOne 16 = .ok (.iconst 1, 1) := by decide +kernel
theorem dX6_takesOne_17 : decode cX6_takesOne 17 = .ok (.goto 4, 3) := by decide +kernel
theorem dX6_takesOne_20 : decode cX6_takesOne 20 = .ok (.iconst 0, 1) := by decide +kernel
theorem dX6_takesOne_21 : decode cX6_takesOne 21 = .ok (.iadd, 1) := by decide +kernel
theorem dX6_takesOne_22 : decode cX6_takesOne 22 = .ok (.putfield 147, 3) := by decide +kernel
theorem dX6_takesOne_25 : decode cX6_takesOne 25 = .ok (.iload_n 2, 1) := by decide +kernel
theorem dX6_takesOne_26 : decode cX6_takesOne 26 = .ok (.ireturn, 1) := by decide +kernel
end
section
set_option maxRecDepth 20000 in
theorem ggX6_readsRow_X6_isHere : GoodIn wsX6_readsRow wsX6_isHere := goodIn_r _ [10, 2, 11, 1, 12, 13, 9, 14, 19, 20, 21, 22, 23, 24, 25, 26, 27, 28, 29, 30] (by decide +kernel) (by decide +kernel)
set_option maxRecDepth 20000 in
theorem gX6_readsRow_X6_isHere : GoodIn wsX6_readsRow (wsV RX6 150 RX6 yX6_isHere wsX6_isHere) := goodIn_app (goodIn_of _ (by decide +kernel)) ggX6_readsRow_X6_isHere
set_option maxRecDepth 20000 in
theorem ggX6_readsRow_X6_takesOne : GoodIn wsX6_readsRow wsX6_takesOne := goodIn_r _ [18, 2, 6, 7, 8, 9, 10, 11, 1, 12, 13, 14, 19, 20, 21, 22, 23, 24, 25, 26, 27, 28, 29, 30] (by decide +kernel) (by decide +kernel)
set_option maxRecDepth 20000 in
theorem gX6_readsRow_X6_takesOne : GoodIn wsX6_readsRow (wsV RX6 153 RX6 yX6_takesOne wsX6_takesOne) := goodIn_app (goodIn_of _ (by decide +kernel)) ggX6_readsRow_X6_takesOne
theorem dX6_readsRow_0 : decode cX6_readsRow 0 = .ok (.aload_n 0, 1) := by decide +kernel
theorem dX6_readsRow_1 : decode cX6_readsRow 1 = .ok (.bipush 48, 2) := by decide +kernel
theorem dX6_readsRow_3 : decode cX6_readsRow 3 = .ok (.bipush 57, 2) := by decide +kernel
theorem dX6_readsRow_5 : decode cX6_readsRow 5 = .ok (.invokevirtual 150, 3) := by decide +kernel
theorem dX6_readsRow_8 : decode cX6_readsRow 8 = .ok (.ifCond .ne 5, 3) := by decide +kernel
theorem dX6_readsRow_11 : decode cX6_readsRow 11 = .ok (.iconst 0, 1) := by decide +kernel
theorem dX6_readsRow_12 : decode cX6_readsRow 12 = .ok (.ireturn, 1) := by decide +kernel
theorem dX6_readsRow_13 : decode cX6_readsRow 13 = .ok (.aload_n 0, 1) := by decide +kernel
theorem dX6_readsRow_14 : decode cX6_readsRow 14 = .ok (.getfield 25, 3) := by decide +kernel
theorem dX6_readsRow_17 : decode cX6_readsRow 17 = .ok (.aload_n 0, 1) := by decide +kernel
theorem dX6_readsRow_18 : decode cX6_readsRow 18 = .ok (.getfield 147, 3) := by decide +kernel
theorem dX6_readsRow_21 : decode cX6_readsRow 21 = .ok (.iaload, 1) := by decide +kernel
theorem dX6_readsRow_22 : decode cX6_readsRow 22 = .ok (.bipush 48, 2) := by decide +kernel
theorem dX6_readsRow_24 : decode cX6_readsRow 24 = .ok (.isub, 1) := by decide +kernel
theorem dX6_readsRow_25 : decode cX6_readsRow 25 = .ok (.istore_n 1, 1) := by decide +kernel
theorem dX6_readsRow_26 : decode cX6_readsRow 26 = .ok (.aload_n 0, 1) := by decide +kernel
theorem dX6_readsRow_27 : decode cX6_readsRow 27 = .ok (.dup, 1) := by decide +kernel
theorem dX6_readsRow_28 : decode cX6_readsRow 28 = .ok (.getfield 147, 3) := by decide +kernel
theorem dX6_readsRow_31 : decode cX6_readsRow 31 = .ok (.iconst 1, 1) := by decide +kernel
theorem dX6_readsRow_32 : decode cX6_readsRow 32 = .ok (.iadd, 1) := by decide +kernel
theorem dX6_readsRow_33 : decode cX6_readsRow 33 = .ok (.putfield 147, 3) := by decide +kernel
theorem dX6_readsRow_36 : decode cX6_readsRow 36 = .ok (.iload_n 1, 1) := by decide +kernel
theorem dX6_readsRow_37 : decode cX6_readsRow 37 = .ok (.iconst 1, 1) := by decide +kernel
theorem dX6_readsRow_38 : decode cX6_readsRow 38 = .ok (.if_icmp .ne 40, 3) := by decide +kernel
theorem dX6_readsRow_41 : decode cX6_readsRow 41 = .ok (.aload_n 0, 1) := by decide +kernel
theorem dX6_readsRow_42 : decode cX6_readsRow 42 = .ok (.bipush 48, 2) := by decide +kernel
theorem dX6_readsRow_44 : decode cX6_readsRow 44 = .ok (.bipush 53, 2) := by decide +kernel
theorem dX6_readsRow_46 : decode cX6_readsRow 46 = .ok (.invokevirtual 150, 3) := by decide +kernel
theorem dX6_readsRow_49 : decode cX6_readsRow 49 = .ok (.ifCond .eq 29, 3) := by decide +kernel
theorem dX6_readsRow_52 : decode cX6_readsRow 52 = .ok (.bipush 10, 2) := by decide +kernel
theorem dX6_readsRow_54 : decode cX6_readsRow 54 = .ok (.aload_n 0, 1) := by decide +kernel
theorem dX6_readsRow_55 : decode cX6_readsRow 55 = .ok (.getfield 25, 3) := by decide +kernel
theorem dX6_readsRow_58 : decode cX6_readsRow 58 = .ok (.aload_n 0, 1) := by decide +kernel
theorem dX6_readsRow_59 : decode cX6_readsRow 59 = .ok (.getfield 147, 3) := by decide +kernel
theorem dX6_readsRow_62 : decode cX6_readsRow 62 = .ok (.iaload, 1) := by decide +kernel
theorem dX6_readsRow_63 : decode cX6_readsRow 63 = .ok (.iadd, 1) := by decide +kernel
theorem dX6_readsRow_64 : decode cX6_readsRow 64 = .ok (.bipush 48, 2) := by decide +kernel
theorem dX6_readsRow_66 : decode cX6_readsRow 66 = .ok (.isub, 1) := by decide +kernel
theorem dX6_readsRow_67 : decode cX6_readsRow 67 = .ok (.istore_n 1, 1) := by decide +kernel
theorem dX6_readsRow_68 : decode cX6_readsRow 68 = .ok (.aload_n 0, 1) := by decide +kernel
theorem dX6_readsRow_69 : decode cX6_readsRow 69 = .ok (.dup, 1) := by decide +kernel
theorem dX6_readsRow_70 : decode cX6_readsRow 70 = .ok (.getfield 147, 3) := by decide +kernel
theorem dX6_readsRow_73 : decode cX6_readsRow 73 = .ok (.iconst 1, 1) := by decide +kernel
theorem dX6_readsRow_74 : decode cX6_readsRow 74 = .ok (.iadd, 1) := by decide +kernel
theorem dX6_readsRow_75 : decode cX6_readsRow 75 = .ok (.putfield 147, 3) := by decide +kernel
theorem dX6_readsRow_78 : decode cX6_readsRow 78 = .ok (.aload_n 0, 1) := by decide +kernel
theorem dX6_readsRow_79 : decode cX6_readsRow 79 = .ok (.bipush 58, 2) := by decide +kernel
theorem dX6_readsRow_81 : decode cX6_readsRow 81 = .ok (.invokevirtual 153, 3) := by decide +kernel
theorem dX6_readsRow_84 : decode cX6_readsRow 84 = .ok (.ifCond .ne 5, 3) := by decide +kernel
theorem dX6_readsRow_87 : decode cX6_readsRow 87 = .ok (.iconst 0, 1) := by decide +kernel
theorem dX6_readsRow_88 : decode cX6_readsRow 88 = .ok (.ireturn, 1) := by decide +kernel
theorem dX6_readsRow_89 : decode cX6_readsRow 89 = .ok (.iconst 0, 1) := by decide +kernel
theorem dX6_readsRow_90 : decode cX6_readsRow 90 = .ok (.istore_n 2, 1) := by decide +kernel
theorem dX6_readsRow_91 : decode cX6_readsRow 91 = .ok (.iconst 0, 1) := by decide +kernel
theorem dX6_readsRow_92 : decode cX6_readsRow 92 = .ok (.istore_n 3, 1) := by decide +kernel
theorem dX6_readsRow_93 : decode cX6_readsRow 93 = .ok (.iload_n 3, 1) := by decide +kernel
theorem dX6_readsRow_94 : decode cX6_readsRow 94 = .ok (.bipush 6, 2) := by decide +kernel
theorem dX6_readsRow_96 : decode cX6_readsRow 96 = .ok (.if_icmp .ge 61, 3) := by decide +kernel
theorem dX6_readsRow_99 : decode cX6_readsRow 99 = .ok (.aload_n 0, 1) := by decide +kernel
theorem dX6_readsRow_100 : decode cX6_readsRow 100 = .ok (.bipush 48, 2) := by decide +kernel
theorem dX6_readsRow_102 : decode cX6_readsRow 102 = .ok (.iload_n 3, 1) := by decide +kernel
theorem dX6_readsRow_103 : decode cX6_readsRow 103 = .ok (.iadd, 1) := by decide +kernel
theorem dX6_readsRow_104 : decode cX6_readsRow 104 = .ok (.bipush 53, 2) := by decide +kernel
theorem dX6_readsRow_106 : decode cX6_readsRow 106 = .ok (.invokevirtual 150, 3) := by decide +kernel
theorem dX6_readsRow_109 : decode cX6_readsRow 109 = .ok (.ifCond .eq 48, 3) := by decide +kernel
theorem dX6_readsRow_112 : decode cX6_readsRow 112 = .ok (.iload_n 2, 1) := by decide +kernel
theorem dX6_readsRow_113 : decode cX6_readsRow 113 = .ok (.iconst 1, 1) := by decide +kernel
theorem dX6_readsRow_114 : decode cX6_readsRow 114 = .ok (.aload_n 0, 1) := by decide +kernel
theorem dX6_readsRow_115 : decode cX6_readsRow 115 = .ok (.getfield 25, 3) := by decide +kernel
theorem dX6_readsRow_118 : decode cX6_readsRow 118 = .ok (.aload_n 0, 1) := by decide +kernel
theorem dX6_readsRow_119 : decode cX6_readsRow 119 = .ok (.getfield 147, 3) := by decide +kernel
theorem dX6_readsRow_122 : decode cX6_readsRow 122 = .ok (.iaload, 1) := by decide +kernel
theorem dX6_readsRow_123 : decode cX6_readsRow 123 = .ok (.bipush 48, 2) := by decide +kernel
theorem dX6_readsRow_125 : decode cX6_readsRow 125 = .ok (.isub, 1) := by decide +kernel
theorem dX6_readsRow_126 : decode cX6_readsRow 126 = .ok (.ishl, 1) := by decide +kernel
theorem dX6_readsRow_127 : decode cX6_readsRow 127 = .ok (.ior, 1) := by decide +kernel
theorem dX6_readsRow_128 : decode cX6_readsRow 128 = .ok (.istore_n 2, 1) := by decide +kernel
theorem dX6_readsRow_129 : decode cX6_readsRow 129 = .ok (.aload_n 0, 1) := by decide +kernel
theorem dX6_readsRow_130 : decode cX6_readsRow 130 = .ok (.getfield 25, 3) := by decide +kernel
theorem dX6_readsRow_133 : decode cX6_readsRow 133 = .ok (.aload_n 0, 1) := by decide +kernel
theorem dX6_readsRow_134 : decode cX6_readsRow 134 = .ok (.getfield 147, 3) := by decide +kernel
theorem dX6_readsRow_137 : decode cX6_readsRow 137 = .ok (.iaload, 1) := by decide +kernel
theorem dX6_readsRow_138 : decode cX6_readsRow 138 = .ok (.bipush 48, 2) := by decide +kernel
theorem dX6_readsRow_140 : decode cX6_readsRow 140 = .ok (.isub, 1) := by decide +kernel
theorem dX6_readsRow_141 : decode cX6_readsRow 141 = .ok (.iconst 1, 1) := by decide +kernel
theorem dX6_readsRow_142 : decode cX6_readsRow 142 = .ok (.iadd, 1) := by decide +kernel
theorem dX6_readsRow_143 : decode cX6_readsRow 143 = .ok (.istore_n 3, 1) := by decide +kernel
theorem dX6_readsRow_144 : decode cX6_readsRow 144 = .ok (.aload_n 0, 1) := by decide +kernel
theorem dX6_readsRow_145 : decode cX6_readsRow 145 = .ok (.dup, 1) := by decide +kernel
theorem dX6_readsRow_146 : decode cX6_readsRow 146 = .ok (.getfield 147, 3) := by decide +kernel
theorem dX6_readsRow_149 : decode cX6_readsRow 149 = .ok (.iconst 1, 1) := by decide +kernel
theorem dX6_readsRow_150 : decode cX6_readsRow 150 = .ok (.iadd, 1) := by decide +kernel
theorem dX6_readsRow_151 : decode cX6_readsRow 151 = .ok (.putfield 147, 3) := by decide +kernel
theorem dX6_readsRow_154 : decode cX6_readsRow 154 = .ok (.goto (-61), 3) := by decide +kernel
theorem dX6_readsRow_157 : decode cX6_readsRow 157 = .ok (.aload_n 0, 1) := by decide +kernel
theorem dX6_readsRow_158 : decode cX6_readsRow 158 = .ok (.getfield 28, 3) := by decide +kernel
theorem dX6_readsRow_161 : decode cX6_readsRow 161 = .ok (.aload_n 0, 1) := by decide +kernel
theorem dX6_readsRow_162 : decode cX6_readsRow 162 = .ok (.getfield 156, 3) := by decide +kernel
theorem dX6_readsRow_165 : decode cX6_readsRow 165 = .ok (.iload_n 1, 1) := by decide +kernel
theorem dX6_readsRow_166 : decode cX6_readsRow 166 = .ok (.iastore, 1) := by decide +kernel
theorem dX6_readsRow_167 : decode cX6_readsRow 167 = .ok (.aload_n 0, 1) := by decide +kernel
theorem dX6_readsRow_168 : decode cX6_readsRow 168 = .ok (.getfield 31, 3) := by decide +kernel
theorem dX6_readsRow_171 : decode cX6_readsRow 171 = .ok (.aload_n 0, 1) := by decide +kernel
theorem dX6_readsRow_172 : decode cX6_readsRow 172 = .ok (.getfield 156, 3) := by decide +kernel
theorem dX6_readsRow_175 : decode cX6_readsRow 175 = .ok (.iload_n 2, 1) := by decide +kernel
theorem dX6_readsRow_176 : decode cX6_readsRow 176 = .ok (.iastore, 1) := by decide +kernel
theorem dX6_readsRow_177 : decode cX6_readsRow 177 = .ok (.aload_n 0, 1) := by decide +kernel
theorem dX6_readsRow_178 : decode cX6_readsRow 178 = .ok (.dup, 1) := by decide +kernel
theorem dX6_readsRow_179 : decode cX6_readsRow 179 = .ok (.getfield 156, 3) := by decide +kernel
theorem dX6_readsRow_182 : decode cX6_readsRow 182 = .ok (.iconst 1, 1) := by decide +kernel
theorem dX6_readsRow_183 : decode cX6_readsRow 183 = .ok (.iadd, 1) := by decide +kernel
theorem dX6_readsRow_184 : decode cX6_readsRow 184 = .ok (.putfield 156, 3) := by decide +kernel
theorem dX6_readsRow_187 : decode cX6_readsRow 187 = .ok (.iconst 1, 1) := by decide +kernel
theorem dX6_readsRow_188 : decode cX6_readsRow 188 = .ok (.ireturn, 1) := by decide +kernel
set_option maxRecDepth 20000 in
theorem ggX6_fault_X6_readsRow : GoodIn wsX6_fault wsX6_readsRow := goodIn_r _ [8, 9, 1, 10, 2, 11, 12, 13, 14, 7, 15, 3, 16, 17, 18, 19, 20, 21, 22, 23, 24, 25, 26, 27, 28, 29, 30, 31, 32, 33, 34] (by decide +kernel) (by decide +kernel)
set_option maxRecDepth 20000 in
theorem gX6_fault_X6_readsRow : GoodIn wsX6_fault (wsV RX6 159 RX6 yX6_readsRow wsX6_readsRow) := goodIn_app (goodIn_of _ (by decide +kernel)) ggX6_fault_X6_readsRow
set_option maxRecDepth 20000 in
theorem ggX6_fault_X6_takesOne : GoodIn wsX6_fault wsX6_takesOne := goodIn_r _ [22, 1, 12, 13, 14, 7, 15, 3, 9, 16, 17, 18, 23, 24, 25, 26, 27, 28, 29, 30, 31, 32, 33, 34] (by decide +kernel) (by decide +kernel)
set_option maxRecDepth 20000 in
theorem gX6_fault_X6_takesOne : GoodIn wsX6_fault (wsV RX6 153 RX6 yX6_takesOne wsX6_takesOne) := goodIn_app (goodIn_of _ (by decide +kernel)) ggX6_fault_X6_takesOne
theorem dX6_fault_0 : decode cX6_fault 0 = .ok (.aload_n 0, 1) := by decide +kernel
theorem dX6_fault_1 : decode cX6_fault 1 = .ok (.iconst 0, 1) := by decide +kernel
theorem dX6_fault_2 : decode cX6_fault 2 = .ok (.putfield 147, 3) := by decide +kernel
theorem dX6_fault_5 : decode cX6_fault 5 = .ok (.aload_n 0, 1) := by decide +kernel
theorem dX6_fault_6 : decode cX6_fault 6 = .ok (.iconst 0, 1) := by decide +kernel
theorem dX6_fault_7 : decode cX6_fault 7 = .ok (.putfield 156, 3) := by decide +kernel
theorem dX6_fault_10 : decode cX6_fault 10 = .ok (.iconst 1, 1) := by decide +kernel
theorem dX6_fault_11 : decode cX6_fault 11 = .ok (.istore_n 1, 1) := by decide +kernel
theorem dX6_fault_12 : decode cX6_fault 12 = .ok (.iload_n 1, 1) := by decide +kernel
theorem dX6_fault_13 : decode cX6_fault 13 = .ok (.ifCond .eq 25, 3) := by decide +kernel
theorem dX6_fault_16 : decode cX6_fault 16 = .ok (.aload_n 0, 1) := by decide +kernel
theorem dX6_fault_17 : decode cX6_fault 17 = .ok (.invokevirtual 159, 3) := by decide +kernel
theorem dX6_fault_20 : decode cX6_fault 20 = .ok (.ifCond .ne 8, 3) := by decide +kernel
theorem dX6_fault_23 : decode cX6_fault 23 = .ok (.aload_n 0, 1) := by decide +kernel
theorem dX6_fault_24 : decode cX6_fault 24 = .ok (.getfield 147, 3) := by decide +kernel
theorem dX6_fault_27 : decode cX6_fault 27 = .ok (.ireturn, 1) := by decide +kernel
theorem dX6_fault_28 : decode cX6_fault 28 = .ok (.aload_n 0, 1) := by decide +kernel
theorem dX6_fault_29 : decode cX6_fault 29 = .ok (.bipush 59, 2) := by decide +kernel
theorem dX6_fault_31 : decode cX6_fault 31 = .ok (.invokevirtual 153, 3) := by decide +kernel
theorem dX6_fault_34 : decode cX6_fault 34 = .ok (.istore_n 1, 1) := by decide +kernel
theorem dX6_fault_35 : decode cX6_fault 35 = .ok (.goto (-23), 3) := by decide +kernel
theorem dX6_fault_38 : decode cX6_fault 38 = .ok (.aload_n 0, 1) := by decide +kernel
theorem dX6_fault_39 : decode cX6_fault 39 = .ok (.getfield 147, 3) := by decide +kernel
theorem dX6_fault_42 : decode cX6_fault 42 = .ok (.aload_n 0, 1) := by decide +kernel
theorem dX6_fault_43 : decode cX6_fault 43 = .ok (.getfield 121, 3) := by decide +kernel
theorem dX6_fault_46 : decode cX6_fault 46 = .ok (.if_icmp .ne 8, 3) := by decide +kernel
theorem dX6_fault_49 : decode cX6_fault 49 = .ok (.bipush (-6), 2) := by decide +kernel
theorem dX6_fault_51 : decode cX6_fault 51 = .ok (.goto 7, 3) := by decide +kernel
theorem dX6_fault_54 : decode cX6_fault 54 = .ok (.aload_n 0, 1) := by decide +kernel
theorem dX6_fault_55 : decode cX6_fault 55 = .ok (.getfield 147, 3) := by decide +kernel
theorem dX6_fault_58 : decode cX6_fault 58 = .ok (.ireturn, 1) := by decide +kernel
set_option maxRecDepth 20000 in
theorem ggX6_read_X6_fault : GoodIn wsX6_read wsX6_fault := goodIn_r _ [10, 11, 1, 5, 12, 13, 14, 9, 15, 16, 2, 3, 17, 18, 19, 20, 21, 22, 23, 24, 25, 26, 27, 49, 50, 51, 52, 53, 54, 55, 56, 57, 58, 59, 60] (by decide +kernel) (by decide +kernel)
set_option maxRecDepth 20000 in
theorem gX6_read_X6_fault : GoodIn wsX6_read (wsV RX6 162 RX6 yX6_fault wsX6_fault) := goodIn_app (goodIn_of _ (by decide +kernel)) ggX6_read_X6_fault
set_option maxRecDepth 20000 in
theorem ggX6_read_X6_changes : GoodIn wsX6_read wsX6_changes := goodIn_r _ [31, 32, 33, 4, 49, 50, 51, 52, 53, 54, 55, 56, 57, 58, 59, 60] (by decide +kernel) (by decide +kernel)
set_option maxRecDepth 20000 in
theorem gX6_read_X6_changes : GoodIn wsX6_read (wsV RX6 91 RX6 yX6_changes wsX6_changes) := goodIn_app (goodIn_of _ (by decide +kernel)) ggX6_read_X6_changes
set_option maxRecDepth 20000 in
theorem ggX6_read_X6_at : GoodIn wsX6_read wsX6_at := goodIn_r _ [36] (by decide +kernel) (by decide +kernel)
set_option maxRecDepth 20000 in
theorem gX6_read_X6_at : GoodIn wsX6_read (va_wsS RX6 46 yX6_at wsX6_at) := goodIn_app (goodIn_of _ (by decide +kernel)) ggX6_read_X6_at
set_option maxRecDepth 20000 in
theorem ggX6_read_X6_pegs : GoodIn wsX6_read wsX6_pegs := goodIn_r _ [40, 41, 42, 43, 9, 44, 45, 46, 47, 48, 4, 34, 35, 36, 49, 50, 51, 52, 53, 54, 55, 56, 57, 58, 59, 60] (by decide +kernel) (by decide +kernel)
set_option maxRecDepth 20000 in
theorem gX6_read_X6_pegs : GoodIn wsX6_read (wsV RX6 114 RX6 yX6_pegs wsX6_pegs) := goodIn_app (goodIn_of _ (by decide +kernel)) ggX6_read_X6_pegs
theorem dX6_read_0 : decode cX6_read 0 = .ok (.aload_n 0, 1) := by decide +kernel
theorem dX6_read_1 : decode cX6_read 1 = .ok (.invokevirtual 162, 3) := by decide +kernel
theorem dX6_read_4 : decode cX6_read 4 = .ok (.bipush (-6), 2) := by decide +kernel
theorem dX6_read_6 : decode cX6_read 6 = .ok (.if_icmp .eq 6, 3) := by decide +kernel
theorem dX6_read_9 : decode cX6_read 9 = .ok (.bipush (-3), 2) := by decide +kernel
theorem dX6_read_11 : decode cX6_read 11 = .ok (.ireturn, 1) := by decide +kernel
theorem dX6_read_12 : decode cX6_read 12 = .ok (.aload_n 0, 1) := by decide +kernel
theorem dX6_read_13 : decode cX6_read 13 = .ok (.invokevirtual 91, 3) := by decide +kernel
theorem dX6_read_16 : decode cX6_read 16 = .ok (.iconst 0, 1) := by decide +kernel
theorem dX6_read_17 : decode cX6_read 17 = .ok (.istore_n 1, 1) := by decide +kernel
theorem dX6_read_18 : decode cX6_read 18 = .ok (.iload_n 1, 1) := by decide +kernel
theorem dX6_read_19 : decode cX6_read 19 = .ok (.bipush 6, 2) := by decide +kernel
theorem dX6_read_21 : decode cX6_read 21 = .ok (.aload_n 0, 1) := by decide +kernel
theorem dX6_read_22 : decode cX6_read 22 = .ok (.getfield 156, 3) := by decide +kernel
theorem dX6_read_25 : decode cX6_read 25 = .ok (.imul, 1) := by decide +kernel
theorem dX6_read_26 : decode cX6_read 26 = .ok (.if_icmp .ge 88, 3) := by decide +kernel
theorem dX6_read_29 : decode cX6_read 29 = .ok (.aload_n 0, 1) := by decide +kernel
theorem dX6_read_30 : decode cX6_read 30 = .ok (.getfield 28, 3) := by decide +kernel
theorem dX6_read_33 : decode cX6_read 33 = .ok (.iload_n 1, 1) := by decide +kernel
theorem dX6_read_34 : decode cX6_read 34 = .ok (.bipush 6, 2) := by decide +kernel
theorem dX6_read_36 : decode cX6_read 36 = .ok (.idiv, 1) := by decide +kernel
theorem dX6_read_37 : decode cX6_read 37 = .ok (.iaload, 1) := by decide +kernel
theorem dX6_read_38 : decode cX6_read 38 = .ok (.iload_n 1, 1) := by decide +kernel
theorem dX6_read_39 : decode cX6_read 39 = .ok (.bipush 6, 2) := by decide +kernel
theorem dX6_read_41 : decode cX6_read 41 = .ok (.irem, 1) := by decide +kernel
theorem dX6_read_42 : decode cX6_read 42 = .ok (.invokestatic 46, 3) := by decide +kernel
theorem dX6_read_45 : decode cX6_read 45 = .ok (.istore_n 2, 1) := by decide +kernel
theorem dX6_read_46 : decode cX6_read 46 = .ok (.aload_n 0, 1) := by decide +kernel
theorem dX6_read_47 : decode cX6_read 47 = .ok (.getfield 31, 3) := by decide +kernel
theorem dX6_read_50 : decode cX6_read 50 = .ok (.iload_n 1, 1) := by decide +kernel
theorem dX6_read_51 : decode cX6_read 51 = .ok (.bipush 6, 2) := by decide +kernel
theorem dX6_read_53 : decode cX6_read 53 = .ok (.idiv, 1) := by decide +kernel
theorem dX6_read_54 : decode cX6_read 54 = .ok (.iaload, 1) := by decide +kernel
theorem dX6_read_55 : decode cX6_read 55 = .ok (.iload_n 1, 1) := by decide +kernel
theorem dX6_read_56 : decode cX6_read 56 = .ok (.bipush 6, 2) := by decide +kernel
theorem dX6_read_58 : decode cX6_read 58 = .ok (.irem, 1) := by decide +kernel
theorem dX6_read_59 : decode cX6_read 59 = .ok (.ishr, 1) := by decide +kernel
theorem dX6_read_60 : decode cX6_read 60 = .ok (.iconst 1, 1) := by decide +kernel
theorem dX6_read_61 : decode cX6_read 61 = .ok (.iand, 1) := by decide +kernel
theorem dX6_read_62 : decode cX6_read 62 = .ok (.iconst 1, 1) := by decide +kernel
theorem dX6_read_63 : decode cX6_read 63 = .ok (.if_icmp .ne 7, 3) := by decide +kernel
theorem dX6_read_66 : decode cX6_read 66 = .ok (.iconst 1, 1) := by decide +kernel
theorem dX6_read_67 : decode cX6_read 67 = .ok (.goto 4, 3) := by decide +kernel
theorem dX6_read_70 : decode cX6_read 70 = .ok (.iconst 0, 1) := by decide +kernel
theorem dX6_read_71 : decode cX6_read 71 = .ok (.istore_n 3, 1) := by decide +kernel
theorem dX6_read_72 : decode cX6_read 72 = .ok (.aload_n 0, 1) := by decide +kernel
theorem dX6_read_73 : decode cX6_read 73 = .ok (.getfield 7, 3) := by decide +kernel
theorem dX6_read_76 : decode cX6_read 76 = .ok (.iload_n 2, 1) := by decide +kernel
theorem dX6_read_77 : decode cX6_read 77 = .ok (.iload_n 3, 1) := by decide +kernel
theorem dX6_read_78 : decode cX6_read 78 = .ok (.ifCond .ne 8, 3) := by decide +kernel
theorem dX6_read_81 : decode cX6_read 81 = .ok (.bipush (-6), 2) := by decide +kernel
theorem dX6_read_83 : decode cX6_read 83 = .ok (.goto 24, 3) := by decide +kernel
theorem dX6_read_86 : decode cX6_read 86 = .ok (.aload_n 0, 1) := by decide +kernel
theorem dX6_read_87 : decode cX6_read 87 = .ok (.getfield 7, 3) := by decide +kernel
theorem dX6_read_90 : decode cX6_read 90 = .ok (.iload_n 2, 1) := by decide +kernel
theorem dX6_read_91 : decode cX6_read 91 = .ok (.iaload, 1) := by decide +kernel
theorem dX6_read_92 : decode cX6_read 92 = .ok (.bipush (-6), 2) := by decide +kernel
theorem dX6_read_94 : decode cX6_read 94 = .ok (.if_icmp .ne 7, 3) := by decide +kernel
theorem dX6_read_97 : decode cX6_read 97 = .ok (.iconst 0, 1) := by decide +kernel
theorem dX6_read_98 : decode cX6_read 98 = .ok (.goto 9, 3) := by decide +kernel
theorem dX6_read_101 : decode cX6_read 101 = .ok (.aload_n 0, 1) := by decide +kernel
theorem dX6_read_102 : decode cX6_read 102 = .ok (.getfield 7, 3) := by decide +kernel
theorem dX6_read_105 : decode cX6_read 105 = .ok (.iload_n 2, 1) := by decide +kernel
theorem dX6_read_106 : decode cX6_read 106 = .ok (.iaload, 1) := by decide +kernel
theorem dX6_read_107 : decode cX6_read 107 = .ok (.iastore, 1) := by decide +kernel
theorem dX6_read_108 : decode cX6_read 108 = .ok (.iinc 1 1, 3) := by decide +kernel
theorem dX6_read_111 : decode cX6_read 111 = .ok (.goto (-93), 3) := by decide +kernel
theorem dX6_read_114 : decode cX6_read 114 = .ok (.aload_n 0, 1) := by decide +kernel
theorem dX6_read_115 : decode cX6_read 115 = .ok (.iconst 0, 1) := by decide +kernel
theorem dX6_read_116 : decode cX6_read 116 = .ok (.putfield 121, 3) := by decide +kernel
theorem dX6_read_119 : decode cX6_read 119 = .ok (.aload_n 0, 1) := by decide +kernel
theorem dX6_read_120 : decode cX6_read 120 = .ok (.invokevirtual 114, 3) := by decide +kernel
theorem dX6_read_123 : decode cX6_read 123 = .ok (.ireturn, 1) := by decide +kernel
theorem dX6_undo_0 : decode cX6_undo 0 = .ok (.aload_n 0, 1) := by decide +kernel
theorem dX6_undo_1 : decode cX6_undo 1 = .ok (.getfield 34, 3) := by decide +kernel
theorem dX6_undo_4 : decode cX6_undo 4 = .ok (.ifCond .ne 6, 3) := by decide +kernel
theorem dX6_undo_7 : decode cX6_undo 7 = .ok (.bipush (-5), 2) := by decide +kernel
theorem dX6_undo_9 : decode cX6_undo 9 = .ok (.ireturn, 1) := by decide +kernel
theorem dX6_undo_10 : decode cX6_undo 10 = .ok (.aload_n 0, 1) := by decide +kernel
theorem dX6_undo_11 : decode cX6_undo 11 = .ok (.dup, 1) := by decide +kernel
theorem dX6_undo_12 : decode cX6_undo 12 = .ok (.getfield 34, 3) := by decide +kernel
theorem dX6_undo_15 : decode cX6_undo 15 = .ok (.iconst 1, 1) := by decide +kernel
theorem dX6_undo_16 : decode cX6_undo 16 = .ok (.isub, 1) := by decide +kernel
theorem dX6_undo_17 : decode cX6_undo 17 = .ok (.putfield 34, 3) := by decide +kernel
theorem dX6_undo_20 : decode cX6_undo 20 = .ok (.iconst 0, 1) := by decide +kernel
theorem dX6_undo_21 : decode cX6_undo 21 = .ok (.istore_n 1, 1) := by decide +kernel
theorem dX6_undo_22 : decode cX6_undo 22 = .ok (.iload_n 1, 1) := by decide +kernel
theorem dX6_undo_23 : decode cX6_undo 23 = .ok (.sipush 136, 3) := by decide +kernel
theorem dX6_undo_26 : decode cX6_undo 26 = .ok (.if_icmp .ge 30, 3) := by decide +kernel
theorem dX6_undo_29 : decode cX6_undo 29 = .ok (.aload_n 0, 1) := by decide +kernel
theorem dX6_undo_30 : decode cX6_undo 30 = .ok (.getfield 7, 3) := by decide +kernel
theorem dX6_undo_33 : decode cX6_undo 33 = .ok (.iload_n 1, 1) := by decide +kernel
theorem dX6_undo_34 : decode cX6_undo 34 = .ok (.aload_n 0, 1) := by decide +kernel
theorem dX6_undo_35 : decode cX6_undo 35 = .ok (.getfield 16, 3) := by decide +kernel
theorem dX6_undo_38 : decode cX6_undo 38 = .ok (.sipush 136, 3) := by decide +kernel
theorem dX6_undo_41 : decode cX6_undo 41 = .ok (.aload_n 0, 1) := by decide +kernel
theorem dX6_undo_42 : decode cX6_undo 42 = .ok (.getfield 34, 3) := by decide +kernel
theorem dX6_undo_45 : decode cX6_undo 45 = .ok (.imul, 1) := by decide +kernel
theorem dX6_undo_46 : decode cX6_undo 46 = .ok (.iload_n 1, 1) := by decide +kernel
theorem dX6_undo_47 : decode cX6_undo 47 = .ok (.iadd, 1) := by decide +kernel
theorem dX6_undo_48 : decode cX6_undo 48 = .ok (.iaload, 1) := by decide +kernel
theorem dX6_undo_49 : decode cX6_undo 49 = .ok (.iastore, 1) := by decide +kernel
theorem dX6_undo_50 : decode cX6_undo 50 = .ok (.iinc 1 1, 3) := by decide +kernel
theorem dX6_undo_53 : decode cX6_undo 53 = .ok (.goto (-31), 3) := by decide +kernel
theorem dX6_undo_56 : decode cX6_undo 56 = .ok (.aload_n 0, 1) := by decide +kernel
theorem dX6_undo_57 : decode cX6_undo 57 = .ok (.getfield 34, 3) := by decide +kernel
theorem dX6_undo_60 : decode cX6_undo 60 = .ok (.ireturn, 1) := by decide +kernel
theorem dX6_isSlot_0 : decode cX6_isSlot 0 = .ok (.iload_n 0, 1) := by decide +kernel
theorem dX6_isSlot_1 : decode cX6_isSlot 1 = .ok (.ifCond .eq 8, 3) := by decide +kernel
theorem dX6_isSlot_4 : decode cX6_isSlot 4 = .ok (.iload_n 0, 1) := by decide +kernel
theorem dX6_isSlot_5 : decode cX6_isSlot 5 = .ok (.iconst 1, 1) := by decide +kernel
theorem dX6_isSlot_6 : decode cX6_isSlot 6 = .ok (.if_icmp .ne 7, 3) := by decide +kernel
theorem dX6_isSlot_9 : decode cX6_isSlot 9 = .ok (.iconst 1, 1) := by decide +kernel
theorem dX6_isSlot_10 : decode cX6_isSlot 10 = .ok (.goto 4, 3) := by decide +kernel
theorem dX6_isSlot_13 : decode cX6_isSlot 13 = .ok (.iconst 0, 1) := by decide +kernel
theorem dX6_isSlot_14 : decode cX6_isSlot 14 = .ok (.ireturn, 1) := by decide +kernel
set_option maxRecDepth 20000 in
theorem ggX6_save_X6_isSlot : GoodIn wsX6_save wsX6_isSlot := goodIn_r _ [7] (by decide +kernel) (by decide +kernel)
set_option maxRecDepth 20000 in
theorem gX6_save_X6_isSlot : GoodIn wsX6_save (va_wsS RX6 165 yX6_isSlot wsX6_isSlot) := goodIn_app (goodIn_of _ (by decide +kernel)) ggX6_save_X6_isSlot
set_option maxRecDepth 20000 in
theorem ggX6_save_X6_pegs : GoodIn wsX6_save wsX6_pegs := goodIn_r _ [11, 12, 13, 14, 6, 15, 16, 17, 18, 19, 2, 20, 21, 22, 23, 24, 25, 26, 27, 28, 29, 30, 31, 32, 33, 34] (by decide +kernel) (by decide +kernel)
set_option maxRecDepth 20000 in
theorem gX6_save_X6_pegs : GoodIn wsX6_save (wsV RX6 114 RX6 yX6_pegs wsX6_pegs) := goodIn_app (goodIn_of _ (by decide +kernel)) ggX6_save_X6_pegs
theorem dX6_save_0 : decode cX6_save 0 = .ok (.iload_n 1, 1) := by decide +kernel
theorem dX6_save_1 : decode cX6_save 1 = .ok (.invokestatic 165, 3) := by decide +kernel
theorem dX6_save_4 : decode cX6_save 4 = .ok (.ifCond .ne 6, 3) := by decide +kernel
theorem dX6_save_7 : decode cX6_save 7 = .ok (.bipush (-2), 2) := by decide +kernel
theorem dX6_save_9 : decode cX6_save 9 = .ok (.ireturn, 1) := by decide +kernel
theorem dX6_save_10 : decode cX6_save 10 = .ok (.iconst 0, 1) := by decide +kernel
theorem dX6_save_11 : decode cX6_save 11 = .ok (.istore_n 2, 1) := by decide +kernel
theorem dX6_save_12 : decode cX6_save 12 = .ok (.iload_n 2, 1) := by decide +kernel
theorem dX6_save_13 : decode cX6_save 13 = .ok (.sipush 136, 3) := by decide +kernel
theorem dX6_save_16 : decode cX6_save 16 = .ok (.if_icmp .ge 27, 3) := by decide +kernel
theorem dX6_save_19 : decode cX6_save 19 = .ok (.aload_n 0, 1) := by decide +kernel
theorem dX6_save_20 : decode cX6_save 20 = .ok (.getfield 19, 3) := by decide +kernel
theorem dX6_save_23 : decode cX6_save 23 = .ok (.sipush 136, 3) := by decide +kernel
theorem dX6_save_26 : decode cX6_save 26 = .ok (.iload_n 1, 1) := by decide +kernel
theorem dX6_save_27 : decode cX6_save 27 = .ok (.imul, 1) := by decide +kernel
theorem dX6_save_28 : decode cX6_save 28 = .ok (.iload_n 2, 1) := by decide +kernel
theorem dX6_save_29 : decode cX6_save 29 = .ok (.iadd, 1) := by decide +kernel
theorem dX6_save_30 : decode cX6_save 30 = .ok (.aload_n 0, 1) := by decide +kernel
theorem dX6_save_31 : decode cX6_save 31 = .ok (.getfield 7, 3) := by decide +kernel
theorem dX6_save_34 : decode cX6_save 34 = .ok (.iload_n 2, 1) := by decide +kernel
theorem dX6_save_35 : decode cX6_save 35 = .ok (.iaload, 1) := by decide +kernel
theorem dX6_save_36 : decode cX6_save 36 = .ok (.iastore, 1) := by decide +kernel
theorem dX6_save_37 : decode cX6_save 37 = .ok (.iinc 2 1, 3) := by decide +kernel
theorem dX6_save_40 : decode cX6_save 40 = .ok (.goto (-28), 3) := by decide +kernel
theorem dX6_save_43 : decode cX6_save 43 = .ok (.aload_n 0, 1) := by decide +kernel
theorem dX6_save_44 : decode cX6_save 44 = .ok (.getfield 22, 3) := by decide +kernel
theorem dX6_save_47 : decode cX6_save 47 = .ok (.iload_n 1, 1) := by decide +kernel
theorem dX6_save_48 : decode cX6_save 48 = .ok (.iconst 1, 1) := by decide +kernel
theorem dX6_save_49 : decode cX6_save 49 = .ok (.iastore, 1) := by decide +kernel
theorem dX6_save_50 : decode cX6_save 50 = .ok (.aload_n 0, 1) := by decide +kernel
theorem dX6_save_51 : decode cX6_save 51 = .ok (.invokevirtual 114, 3) := by decide +kernel
theorem dX6_save_54 : decode cX6_save 54 = .ok (.ireturn, 1) := by decide +kernel
set_option maxRecDepth 20000 in
theorem ggX6_restore_X6_isSlot : GoodIn wsX6_restore wsX6_isSlot := goodIn_r _ [7] (by decide +kernel) (by decide +kernel)
set_option maxRecDepth 20000 in
theorem gX6_restore_X6_isSlot : GoodIn wsX6_restore (va_wsS RX6 165 yX6_isSlot wsX6_isSlot) := goodIn_app (goodIn_of _ (by decide +kernel)) ggX6_restore_X6_isSlot
set_option maxRecDepth 20000 in
theorem ggX6_restore_X6_changes : GoodIn wsX6_restore wsX6_changes := goodIn_r _ [11, 12, 13, 2, 29, 30, 31, 32, 33, 34, 35, 36, 37, 38, 39, 40] (by decide +kernel) (by decide +kernel)
set_option maxRecDepth 20000 in
theorem gX6_restore_X6_changes : GoodIn wsX6_restore (wsV RX6 91 RX6 yX6_changes wsX6_changes) := goodIn_app (goodIn_of _ (by decide +kernel)) ggX6_restore_X6_changes
set_option maxRecDepth 20000 in
theorem ggX6_restore_X6_pegs : GoodIn wsX6_restore wsX6_pegs := goodIn_r _ [17, 18, 19, 20, 6, 21, 22, 23, 24, 25, 2, 26, 27, 28, 29, 30, 31, 32, 33, 34, 35, 36, 37, 38, 39, 40] (by decide +kernel) (by decide +kernel)
set_option maxRecDepth 20000 in
theorem gX6_restore_X6_pegs : GoodIn wsX6_restore (wsV RX6 114 RX6 yX6_pegs wsX6_pegs) := goodIn_app (goodIn_of _ (by decide +kernel)) ggX6_restore_X6_pegs
theorem dX6_restore_0 : decode cX6_restore 0 = .ok (.iload_n 1, 1) := by decide +kernel
theorem dX6_restore_1 : decode cX6_restore 1 = .ok (.invokestatic 165, 3) := by decide +kernel
theorem dX6_restore_4 : decode cX6_restore 4 = .ok (.ifCond .ne 6, 3) := by decide +kernel
theorem dX6_restore_7 : decode cX6_restore 7 = .ok (.bipush (-2), 2) := by decide +kernel
theorem dX6_restore_9 : decode cX6_restore 9 = .ok (.ireturn, 1) := by decide +kernel
theorem dX6_restore_10 : decode cX6_restore 10 = .ok (.aload_n 0, 1) := by decide +kernel
theorem dX6_restore_11 : decode cX6_restore 11 = .ok (.getfield 22, 3) := by decide +kernel
theorem dX6_restore_14 : decode cX6_restore 14 = .ok (.iload_n 1, 1) := by decide +kernel
theorem dX6_restore_15 : decode cX6_restore 15 = .ok (.iaload, 1) := by decide +kernel
theorem dX6_restore_16 : decode cX6_restore 16 = .ok (.ifCond .ne 6, 3) := by decide +kernel
theorem dX6_restore_19 : decode cX6_restore 19 = .ok (.bipush (-5), 2) := by decide +kernel
theorem dX6_restore_21 : decode cX6_restore 21 = .ok (.ireturn, 1) := by decide +kernel
theorem dX6_restore_22 : decode cX6_restore 22 = .ok (.aload_n 0, 1) := by decide +kernel
theorem dX6_restore_23 : decode cX6_restore 23 = .ok (.invokevirtual 91, 3) := by decide +kernel
theorem dX6_restore_26 : decode cX6_restore 26 = .ok (.iconst 0, 1) := by decide +kernel
theorem dX6_restore_27 : decode cX6_restore 27 = .ok (.istore_n 2, 1) := by decide +kernel
theorem dX6_restore_28 : decode cX6_restore 28 = .ok (.iload_n 2, 1) := by decide +kernel
theorem dX6_restore_29 : decode cX6_restore 29 = .ok (.sipush 136, 3) := by decide +kernel
theorem dX6_restore_32 : decode cX6_restore 32 = .ok (.if_icmp .ge 27, 3) := by decide +kernel
theorem dX6_restore_35 : decode cX6_restore 35 = .ok (.aload_n 0, 1) := by decide +kernel
theorem dX6_restore_36 : decode cX6_restore 36 = .ok (.getfield 7, 3) := by decide +kernel
theorem dX6_restore_39 : decode cX6_restore 39 = .ok (.iload_n 2, 1) := by decide +kernel
theorem dX6_restore_40 : decode cX6_restore 40 = .ok (.aload_n 0, 1) := by decide +kernel
theorem dX6_restore_41 : decode cX6_restore 41 = .ok (.getfield 19, 3) := by decide +kernel
theorem dX6_restore_44 : decode cX6_restore 44 = .ok (.sipush 136, 3) := by decide +kernel
theorem dX6_restore_47 : decode cX6_restore 47 = .ok (.iload_n 1, 1) := by decide +kernel
theorem dX6_restore_48 : decode cX6_restore 48 = .ok (.imul, 1) := by decide +kernel
theorem dX6_restore_49 : decode cX6_restore 49 = .ok (.iload_n 2, 1) := by decide +kernel
theorem dX6_restore_50 : decode cX6_restore 50 = .ok (.iadd, 1) := by decide +kernel
theorem dX6_restore_51 : decode cX6_restore 51 = .ok (.iaload, 1) := by decide +kernel
theorem dX6_restore_52 : decode cX6_restore 52 = .ok (.iastore, 1) := by decide +kernel
theorem dX6_restore_53 : decode cX6_restore 53 = .ok (.iinc 2 1, 3) := by decide +kernel
theorem dX6_restore_56 : decode cX6_restore 56 = .ok (.goto (-28), 3) := by decide +kernel
theorem dX6_restore_59 : decode cX6_restore 59 = .ok (.aload_n 0, 1) := by decide +kernel
theorem dX6_restore_60 : decode cX6_restore 60 = .ok (.invokevirtual 114, 3) := by decide +kernel
theorem dX6_restore_63 : decode cX6_restore 63 = .ok (.ireturn, 1) := by decide +kernel
theorem dJ6_bitCount_0f7a4_0 : decode cJ6_bitCount_0f7a4 0 = .ok (.iload_n 0, 1) := by decide +kernel
theorem dJ6_bitCount_0f7a4_1 : decode cJ6_bitCount_0f7a4 1 = .ok (.iload_n 0, 1) := by decide +kernel
theorem dJ6_bitCount_0f7a4_2 : decode cJ6_bitCount_0f7a4 2 = .ok (.iconst 1, 1) := by decide +kernel
theorem dJ6_bitCount_0f7a4_3 : decode cJ6_bitCount_0f7a4 3 = .ok (.iushr, 1) := by decide +kernel
theorem dJ6_bitCount_0f7a4_4 : decode cJ6_bitCount_0f7a4 4 = .ok (.ldc_w 265, 3) := by decide +kernel
theorem dJ6_bitCount_0f7a4_7 : decode cJ6_bitCount_0f7a4 7 = .ok (.iand, 1) := by decide +kernel
theorem dJ6_bitCount_0f7a4_8 : decode cJ6_bitCount_0f7a4 8 = .ok (.isub, 1) := by decide +kernel
theorem dJ6_bitCount_0f7a4_9 : decode cJ6_bitCount_0f7a4 9 = .ok (.istore_n 0, 1) := by decide +kernel
theorem dJ6_bitCount_0f7a4_10 : decode cJ6_bitCount_0f7a4 10 = .ok (.iload_n 0, 1) := by decide +kernel
theorem dJ6_bitCount_0f7a4_11 : decode cJ6_bitCount_0f7a4 11 = .ok (.ldc_w 266, 3) := by decide +kernel
theorem dJ6_bitCount_0f7a4_14 : decode cJ6_bitCount_0f7a4 14 = .ok (.iand, 1) := by decide +kernel
theorem dJ6_bitCount_0f7a4_15 : decode cJ6_bitCount_0f7a4 15 = .ok (.iload_n 0, 1) := by decide +kernel
theorem dJ6_bitCount_0f7a4_16 : decode cJ6_bitCount_0f7a4 16 = .ok (.iconst 2, 1) := by decide +kernel
theorem dJ6_bitCount_0f7a4_17 : decode cJ6_bitCount_0f7a4 17 = .ok (.iushr, 1) := by decide +kernel
theorem dJ6_bitCount_0f7a4_18 : decode cJ6_bitCount_0f7a4 18 = .ok (.ldc_w 266, 3) := by decide +kernel
theorem dJ6_bitCount_0f7a4_21 : decode cJ6_bitCount_0f7a4 21 = .ok (.iand, 1) := by decide +kernel
theorem dJ6_bitCount_0f7a4_22 : decode cJ6_bitCount_0f7a4 22 = .ok (.iadd, 1) := by decide +kernel
theorem dJ6_bitCount_0f7a4_23 : decode cJ6_bitCount_0f7a4 23 = .ok (.istore_n 0, 1) := by decide +kernel
theorem dJ6_bitCount_0f7a4_24 : decode cJ6_bitCount_0f7a4 24 = .ok (.iload_n 0, 1) := by decide +kernel
theorem dJ6_bitCount_0f7a4_25 : decode cJ6_bitCount_0f7a4 25 = .ok (.iload_n 0, 1) := by decide +kernel
theorem dJ6_bitCount_0f7a4_26 : decode cJ6_bitCount_0f7a4 26 = .ok (.iconst 4, 1) := by decide +kernel
theorem dJ6_bitCount_0f7a4_27 : decode cJ6_bitCount_0f7a4 27 = .ok (.iushr, 1) := by decide +kernel
theorem dJ6_bitCount_0f7a4_28 : decode cJ6_bitCount_0f7a4 28 = .ok (.iadd, 1) := by decide +kernel
theorem dJ6_bitCount_0f7a4_29 : decode cJ6_bitCount_0f7a4 29 = .ok (.ldc_w 267, 3) := by decide +kernel
theorem dJ6_bitCount_0f7a4_32 : decode cJ6_bitCount_0f7a4 32 = .ok (.iand, 1) := by decide +kernel
theorem dJ6_bitCount_0f7a4_33 : decode cJ6_bitCount_0f7a4 33 = .ok (.istore_n 0, 1) := by decide +kernel
theorem dJ6_bitCount_0f7a4_34 : decode cJ6_bitCount_0f7a4 34 = .ok (.iload_n 0, 1) := by decide +kernel
theorem dJ6_bitCount_0f7a4_35 : decode cJ6_bitCount_0f7a4 35 = .ok (.iload_n 0, 1) := by decide +kernel
theorem dJ6_bitCount_0f7a4_36 : decode cJ6_bitCount_0f7a4 36 = .ok (.bipush 8, 2) := by decide +kernel
theorem dJ6_bitCount_0f7a4_38 : decode cJ6_bitCount_0f7a4 38 = .ok (.iushr, 1) := by decide +kernel
theorem dJ6_bitCount_0f7a4_39 : decode cJ6_bitCount_0f7a4 39 = .ok (.iadd, 1) := by decide +kernel
theorem dJ6_bitCount_0f7a4_40 : decode cJ6_bitCount_0f7a4 40 = .ok (.istore_n 0, 1) := by decide +kernel
theorem dJ6_bitCount_0f7a4_41 : decode cJ6_bitCount_0f7a4 41 = .ok (.iload_n 0, 1) := by decide +kernel
theorem dJ6_bitCount_0f7a4_42 : decode cJ6_bitCount_0f7a4 42 = .ok (.iload_n 0, 1) := by decide +kernel
theorem dJ6_bitCount_0f7a4_43 : decode cJ6_bitCount_0f7a4 43 = .ok (.bipush 16, 2) := by decide +kernel
theorem dJ6_bitCount_0f7a4_45 : decode cJ6_bitCount_0f7a4 45 = .ok (.iushr, 1) := by decide +kernel
theorem dJ6_bitCount_0f7a4_46 : decode cJ6_bitCount_0f7a4 46 = .ok (.iadd, 1) := by decide +kernel
theorem dJ6_bitCount_0f7a4_47 : decode cJ6_bitCount_0f7a4 47 = .ok (.istore_n 0, 1) := by decide +kernel
theorem dJ6_bitCount_0f7a4_48 : decode cJ6_bitCount_0f7a4 48 = .ok (.iload_n 0, 1) := by decide +kernel
theorem dJ6_bitCount_0f7a4_49 : decode cJ6_bitCount_0f7a4 49 = .ok (.bipush 63, 2) := by decide +kernel
theorem dJ6_bitCount_0f7a4_51 : decode cJ6_bitCount_0f7a4 51 = .ok (.iand, 1) := by decide +kernel
theorem dJ6_bitCount_0f7a4_52 : decode cJ6_bitCount_0f7a4 52 = .ok (.ireturn, 1) := by decide +kernel
theorem dJ9_floorMod_7cf53_0 : decode cJ9_floorMod_7cf53 0 = .ok (.iload_n 0, 1) := by decide +kernel
theorem dJ9_floorMod_7cf53_1 : decode cJ9_floorMod_7cf53 1 = .ok (.iload_n 1, 1) := by decide +kernel
theorem dJ9_floorMod_7cf53_2 : decode cJ9_floorMod_7cf53 2 = .ok (.irem, 1) := by decide +kernel
theorem dJ9_floorMod_7cf53_3 : decode cJ9_floorMod_7cf53 3 = .ok (.istore_n 2, 1) := by decide +kernel
theorem dJ9_floorMod_7cf53_4 : decode cJ9_floorMod_7cf53 4 = .ok (.iload_n 0, 1) := by decide +kernel
theorem dJ9_floorMod_7cf53_5 : decode cJ9_floorMod_7cf53 5 = .ok (.iload_n 1, 1) := by decide +kernel
theorem dJ9_floorMod_7cf53_6 : decode cJ9_floorMod_7cf53 6 = .ok (.ixor, 1) := by decide +kernel
theorem dJ9_floorMod_7cf53_7 : decode cJ9_floorMod_7cf53 7 = .ok (.ifCond .ge 11, 3) := by decide +kernel
theorem dJ9_floorMod_7cf53_10 : decode cJ9_floorMod_7cf53 10 = .ok (.iload_n 2, 1) := by decide +kernel
theorem dJ9_floorMod_7cf53_11 : decode cJ9_floorMod_7cf53 11 = .ok (.ifCond .eq 7, 3) := by decide +kernel
theorem dJ9_floorMod_7cf53_14 : decode cJ9_floorMod_7cf53 14 = .ok (.iload_n 2, 1) := by decide +kernel
theorem dJ9_floorMod_7cf53_15 : decode cJ9_floorMod_7cf53 15 = .ok (.iload_n 1, 1) := by decide +kernel
theorem dJ9_floorMod_7cf53_16 : decode cJ9_floorMod_7cf53 16 = .ok (.iadd, 1) := by decide +kernel
theorem dJ9_floorMod_7cf53_17 : decode cJ9_floorMod_7cf53 17 = .ok (.ireturn, 1) := by decide +kernel
theorem dJ9_floorMod_7cf53_18 : decode cJ9_floorMod_7cf53 18 = .ok (.iload_n 2, 1) := by decide +kernel
theorem dJ9_floorMod_7cf53_19 : decode cJ9_floorMod_7cf53 19 = .ok (.ireturn, 1) := by decide +kernel
theorem dJ9_min_7cf53_0 : decode cJ9_min_7cf53 0 = .ok (.iload_n 0, 1) := by decide +kernel
theorem dJ9_min_7cf53_1 : decode cJ9_min_7cf53 1 = .ok (.iload_n 1, 1) := by decide +kernel
theorem dJ9_min_7cf53_2 : decode cJ9_min_7cf53 2 = .ok (.if_icmp .gt 7, 3) := by decide +kernel
theorem dJ9_min_7cf53_5 : decode cJ9_min_7cf53 5 = .ok (.iload_n 0, 1) := by decide +kernel
theorem dJ9_min_7cf53_6 : decode cJ9_min_7cf53 6 = .ok (.goto 4, 3) := by decide +kernel
theorem dJ9_min_7cf53_9 : decode cJ9_min_7cf53 9 = .ok (.iload_n 1, 1) := by decide +kernel
theorem dJ9_min_7cf53_10 : decode cJ9_min_7cf53 10 = .ok (.ireturn, 1) := by decide +kernel
end
section
set_option maxRecDepth 20000 in
theorem ggL_law_X5_init : GoodIn wsL_law wsX5_init := goodIn_r _ [9, 10, 11, 12, 13, 14, 15, 16, 17, 18, 19, 20, 21, 22, 23, 24, 25, 26, 27, 28, 29, 30, 31, 32, 33, 34, 35, 36, 37, 38, 39, 40, 41, 42, 43, 44, 45, 46, 47, 48, 49, 50, 51, 52, 53, 54, 55, 56, 57, 58, 59, 60, 61, 62, 63, 596, 597, 598, 599, 600, 601, 602, 603, 604, 605, 606, 607, 608, 578, 579, 580, 581, 582, 583, 609, 610, 611, 612, 613, 614, 615, 616, 617, 618, 619, 620, 621] (by decide +kernel) (by decide +kernel)
set_option maxRecDepth 20000 in
theorem gL_law_X5_init : GoodIn wsL_law (wsX5_init) := ggL_law_X5_init
set_option maxRecDepth 20000 in
theorem ggL_law_X6_init : GoodIn wsL_law wsX6_init := goodIn_r _ [66, 67, 11, 12, 32, 68, 69, 70, 71, 72, 73, 74, 75, 584, 585, 586, 587, 588, 589, 590, 591, 592, 593, 594, 595] (by decide +kernel) (by decide +kernel)
set_option maxRecDepth 20000 in
theorem gL_law_X6_init : GoodIn wsL_law (wsX6_init) := ggL_law_X6_init
set_option maxRecDepth 20000 in
theorem ggL_law_X5_set : GoodIn wsL_law wsX5_set := goodIn_r _ [79, 80, 81, 21, 16, 82, 83, 84, 85, 20, 86, 58, 87, 88, 89, 90, 91, 92, 93, 94, 95, 15, 96, 33, 97, 98, 99, 100, 37, 41, 101, 102, 103, 104, 105, 106, 107, 108, 109, 110, 111, 112, 113, 36, 114, 45, 115, 46, 116, 117, 118, 119, 120, 40, 121, 50, 122, 51, 52, 53, 578, 579, 580, 581, 582, 583, 596, 597, 598, 599, 600, 601, 602, 603, 604, 605, 606, 607, 608, 609, 610, 611, 614, 615, 616, 617, 618, 619, 620, 621] (by decide +kernel) (by decide +kernel)
set_option maxRecDepth 20000 in
theorem gL_law_X5_set : GoodIn wsL_law (wsV RL 13 RX5 yX5_set wsX5_set) := goodIn_app (goodIn_of _ (by decide +kernel)) ggL_law_X5_set
set_option maxRecDepth 20000 in
theorem ggL_law_X6_set : GoodIn wsL_law wsX6_set := goodIn_r _ [126, 68, 127, 128, 5, 129, 130, 131, 132, 133, 134, 135, 136, 137, 138, 139, 140, 141, 70, 584, 585, 586, 587, 588, 589, 590, 591, 592, 593, 594, 595] (by decide +kernel) (by decide +kernel)
set_option maxRecDepth 20000 in
theorem gL_law_X6_set : GoodIn wsL_law (wsV RL 17 RX6 yX6_set wsX6_set) := goodIn_app (goodIn_of _ (by decide +kernel)) ggL_law_X6_set
set_option maxRecDepth 20000 in
theorem ggL_law_X5_peg : GoodIn wsL_law wsX5_peg := goodIn_r _ [145, 21, 16, 146, 147, 148, 149, 2, 150, 151, 152, 153, 83, 84, 85, 20, 86, 58, 87, 88, 89, 90, 91, 92, 93, 94, 95, 15, 96, 33, 97, 98, 99, 100, 37, 41, 101, 102, 103, 104, 105, 106, 107, 108, 109, 110, 111, 112, 113, 36, 114, 45, 115, 46, 116, 117, 118, 119, 120, 40, 121, 50, 122, 51, 52, 53, 154, 155, 156, 157, 158, 159, 160, 161, 162, 163, 164, 165, 166, 167, 168, 169, 170, 171, 172, 578, 579, 580, 581, 582, 583, 596, 597, 598, 599, 600, 601, 602, 603, 604, 605, 606, 607, 608, 614, 615, 616, 617, 609, 610, 611, 618, 619, 620, 621] (by decide +kernel) (by decide +kernel)
set_option maxRecDepth 20000 in
theorem gL_law_X5_peg : GoodIn wsL_law (wsV RL 18 RX5 yX5_peg wsX5_peg) := goodIn_app (goodIn_of _ (by decide +kernel)) ggL_law_X5_peg
set_option maxRecDepth 20000 in
theorem ggL_law_X6_peg : GoodIn wsL_law wsX6_peg := goodIn_r _ [176, 68, 177, 178, 5, 179, 180, 134, 135, 136, 181, 182, 183, 184, 137, 138, 139, 140, 141, 70, 185, 186, 187, 188, 189, 190, 191, 192, 193, 194, 195, 584, 585, 586, 587, 588, 589, 590, 591, 592, 593, 594, 595] (by decide +kernel) (by decide +kernel)
set_option maxRecDepth 20000 in
theorem gL_law_X6_peg : GoodIn wsL_law (wsV RL 21 RX6 yX6_peg wsX6_peg) := goodIn_app (goodIn_of _ (by decide +kernel)) ggL_law_X6_peg
set_option maxRecDepth 20000 in
theorem ggL_law_X5_order : GoodIn wsL_law wsX5_order := goodIn_r _ [199, 21, 16, 200, 83, 84, 85, 20, 86, 58, 87, 88, 89, 90, 91, 92, 93, 94, 95, 15, 96, 33, 97, 98, 99, 100, 37, 41, 101, 102, 103, 104, 105, 106, 107, 108, 109, 110, 111, 112, 113, 36, 114, 45, 115, 46, 116, 117, 118, 119, 120, 40, 121, 50, 122, 51, 52, 53, 578, 579, 580, 581, 582, 583, 596, 597, 598, 599, 600, 601, 602, 603, 604, 605, 606, 607, 608, 609, 610, 611, 614, 615, 616, 617, 618, 619, 620, 621] (by decide +kernel) (by decide +kernel)
set_option maxRecDepth 20000 in
theorem gL_law_X5_order : GoodIn wsL_law (wsV RL 22 RX5 yX5_order wsX5_order) := goodIn_app (goodIn_of _ (by decide +kernel)) ggL_law_X5_order
set_option maxRecDepth 20000 in
theorem ggL_law_X6_order : GoodIn wsL_law wsX6_order := goodIn_r _ [204, 205, 68, 134, 135, 5, 136, 137, 138, 139, 140, 141, 70, 584, 585, 586, 587, 588, 589, 590, 591, 592, 593, 594, 595] (by decide +kernel) (by decide +kernel)
set_option maxRecDepth 20000 in
theorem gL_law_X6_order : GoodIn wsL_law (wsV RL 26 RX6 yX6_order wsX6_order) := goodIn_app (goodIn_of _ (by decide +kernel)) ggL_law_X6_order
set_option maxRecDepth 20000 in
theorem ggL_law_X5_ink : GoodIn wsL_law wsX5_ink := goodIn_r _ [209, 21, 16, 210, 211, 151, 152, 2, 153, 83, 84, 85, 20, 86, 58, 87, 88, 89, 90, 91, 92, 93, 94, 95, 15, 96, 33, 97, 98, 99, 100, 37, 41, 101, 102, 103, 104, 105, 106, 107, 108, 109, 110, 111, 112, 113, 36, 114, 45, 115, 46, 116, 117, 118, 119, 120, 40, 121, 50, 122, 51, 52, 53, 578, 579, 580, 581, 582, 583, 596, 597, 598, 599, 600, 601, 602, 603, 604, 605, 606, 607, 608, 618, 619, 620, 621, 609, 610, 611, 614, 615, 616, 617] (by decide +kernel) (by decide +kernel)
set_option maxRecDepth 20000 in
theorem gL_law_X5_ink : GoodIn wsL_law (wsV RL 27 RX5 yX5_ink wsX5_ink) := goodIn_app (goodIn_of _ (by decide +kernel)) ggL_law_X5_ink
set_option maxRecDepth 20000 in
theorem ggL_law_X6_ink : GoodIn wsL_law wsX6_ink := goodIn_r _ [215, 68, 181, 182, 5, 183, 184, 134, 135, 136, 137, 138, 139, 140, 141, 70, 584, 585, 586, 587, 588, 589, 590, 591, 592, 593, 594, 595] (by decide +kernel) (by decide +kernel)
set_option maxRecDepth 20000 in
theorem gL_law_X6_ink : GoodIn wsL_law (wsV RL 30 RX6 yX6_ink wsX6_ink) := goodIn_app (goodIn_of _ (by decide +kernel)) ggL_law_X6_ink
set_option maxRecDepth 20000 in
theorem ggL_law_X5_step : GoodIn wsL_law wsX5_step := goodIn_r _ [219, 16, 220, 221, 222, 21, 83, 84, 85, 20, 86, 58, 87, 88, 89, 90, 91, 92, 93, 94, 95, 15, 96, 33, 97, 98, 99, 100, 37, 41, 101, 102, 103, 104, 105, 106, 107, 108, 109, 110, 111, 112, 113, 36, 114, 45, 115, 46, 116, 117, 118, 119, 120, 40, 121, 50, 122, 51, 52, 53, 223, 224, 225, 226, 227, 228, 229, 230, 231, 232, 233, 234, 235, 236, 237, 163, 164, 165, 166, 167, 168, 169, 170, 171, 172, 238, 239, 240, 241, 242, 243, 244, 245, 246, 247, 248, 249, 250, 251, 252, 253, 254, 255, 256, 257, 258, 259, 260, 261, 262, 263, 264, 265, 266, 267, 268, 269, 578, 579, 580, 581, 582, 583, 596, 597, 598, 599, 600, 601, 602, 603, 604, 605, 606, 607, 608, 609, 610, 611, 614, 615, 616, 617, 618, 619, 620, 621] (by decide +kernel) (by decide +kernel)
set_option maxRecDepth 20000 in
theorem gL_law_X5_step : GoodIn wsL_law (wsV RL 31 RX5 yX5_step wsX5_step) := goodIn_app (goodIn_of _ (by decide +kernel)) ggL_law_X5_step
set_option maxRecDepth 20000 in
theorem ggL_law_X6_step : GoodIn wsL_law wsX6_step := goodIn_r _ [273, 274, 68, 275, 134, 135, 5, 136, 137, 138, 139, 140, 141, 70, 276, 277, 278, 279, 280, 281, 282, 283, 284, 285, 286, 287, 192, 193, 194, 195, 188, 189, 190, 191, 185, 186, 187, 288, 289, 290, 291, 292, 293, 294, 295, 296, 297, 298, 299, 300, 301, 302, 303, 584, 585, 586, 587, 588, 589, 590, 591, 592, 593, 594, 595] (by decide +kernel) (by decide +kernel)
set_option maxRecDepth 20000 in
theorem gL_law_X6_step : GoodIn wsL_law (wsV RL 34 RX6 yX6_step wsX6_step) := goodIn_app (goodIn_of _ (by decide +kernel)) ggL_law_X6_step
set_option maxRecDepth 20000 in
theorem ggL_law_X5_free : GoodIn wsL_law wsX5_free := goodIn_r _ [307, 16, 220, 21, 146, 308, 83, 84, 85, 20, 86, 58, 87, 88, 89, 90, 91, 92, 93, 94, 95, 15, 96, 33, 97, 98, 99, 100, 37, 41, 101, 102, 103, 104, 105, 106, 107, 108, 109, 110, 111, 112, 113, 36, 114, 45, 115, 46, 116, 117, 118, 119, 120, 40, 121, 50, 122, 51, 52, 53, 309, 256, 257, 258, 259, 260, 261, 578, 579, 580, 581, 582, 583, 596, 597, 598, 599, 600, 601, 602, 603, 604, 605, 606, 607, 608, 614, 615, 616, 617, 609, 610, 611, 618, 619, 620, 621] (by decide +kernel) (by decide +kernel)
set_option maxRecDepth 20000 in
theorem gL_law_X5_free : GoodIn wsL_law (wsV RL 35 RX5 yX5_free wsX5_free) := goodIn_app (goodIn_of _ (by decide +kernel)) ggL_law_X5_free
set_option maxRecDepth 20000 in
theorem ggL_law_X6_free : GoodIn wsL_law wsX6_free := goodIn_r _ [313, 68, 137, 138, 139, 5, 140, 141, 70, 584, 585, 586, 587, 588, 589, 590, 591, 592, 593, 594, 595] (by decide +kernel) (by decide +kernel)
set_option maxRecDepth 20000 in
theorem gL_law_X6_free : GoodIn wsL_law (wsV RL 39 RX6 yX6_free wsX6_free) := goodIn_app (goodIn_of _ (by decide +kernel)) ggL_law_X6_free
set_option maxRecDepth 20000 in
theorem ggL_law_X5_newForm : GoodIn wsL_law wsX5_newForm := goodIn_r _ [317, 21, 16, 318, 83, 84, 85, 20, 86, 58, 87, 88, 89, 90, 91, 92, 93, 94, 95, 15, 96, 33, 97, 98, 99, 100, 37, 41, 101, 102, 103, 104, 105, 106, 107, 108, 109, 110, 111, 112, 113, 36, 114, 45, 115, 46, 116, 117, 118, 119, 120, 40, 121, 50, 122, 51, 52, 53, 319, 267, 268, 269, 578, 579, 580, 581, 582, 583, 596, 597, 598, 599, 600, 601, 602, 603, 604, 605, 606, 607, 608, 609, 610, 611, 614, 615, 616, 617, 618, 619, 620, 621] (by decide +kernel) (by decide +kernel)
set_option maxRecDepth 20000 in
theorem gL_law_X5_newForm : GoodIn wsL_law (wsV RL 40 RX5 yX5_newForm wsX5_newForm) := goodIn_app (goodIn_of _ (by decide +kernel)) ggL_law_X5_newForm
set_option maxRecDepth 20000 in
theorem ggL_law_X6_newForm : GoodIn wsL_law wsX6_newForm := goodIn_r _ [323, 68, 137, 138, 139, 5, 140, 141, 70, 300, 301, 302, 303, 584, 585, 586, 587, 588, 589, 590, 591, 592, 593, 594, 595] (by decide +kernel) (by decide +kernel)
set_option maxRecDepth 20000 in
theorem gL_law_X6_newForm : GoodIn wsL_law (wsV RL 43 RX6 yX6_newForm wsX6_newForm) := goodIn_app (goodIn_of _ (by decide +kernel)) ggL_law_X6_newForm
set_option maxRecDepth 20000 in
theorem ggL_law_X5_read : GoodIn wsL_law wsX5_read := goodIn_r _ [327, 25, 21, 16, 146, 328, 329, 330, 24, 331, 332, 63, 333, 334, 335, 336, 337, 338, 152, 2, 153, 83, 84, 85, 20, 86, 58, 87, 88, 89, 90, 91, 92, 93, 94, 95, 15, 96, 33, 97, 98, 99, 100, 37, 41, 101, 102, 103, 104, 105, 106, 107, 108, 109, 110, 111, 112, 113, 36, 114, 45, 115, 46, 116, 117, 118, 119, 120, 40, 121, 50, 122, 51, 52, 53, 339, 340, 341, 342, 149, 150, 343, 155, 156, 157, 158, 159, 160, 161, 344, 345, 346, 347, 348, 349, 350, 351, 352, 163, 164, 165, 166, 167, 168, 169, 170, 171, 172, 578, 579, 580, 581, 582, 583, 596, 597, 598, 599, 600, 601, 602, 603, 604, 605, 606, 607, 608, 612, 613, 609, 610, 611, 614, 615, 616, 617, 618, 619, 620, 621] (by decide +kernel) (by decide +kernel)
set_option maxRecDepth 20000 in
theorem gL_law_X5_read : GoodIn wsL_law (wsV RL 44 RX5 yX5_read wsX5_read) := goodIn_app (goodIn_of _ (by decide +kernel)) ggL_law_X5_read
set_option maxRecDepth 20000 in
theorem ggL_law_X6_read : GoodIn wsL_law wsX6_read := goodIn_r _ [356, 357, 74, 75, 68, 358, 359, 360, 361, 5, 362, 363, 364, 365, 366, 367, 73, 368, 369, 370, 371, 134, 135, 136, 372, 373, 374, 375, 137, 138, 139, 140, 141, 70, 185, 186, 187, 376, 377, 378, 379, 192, 193, 194, 195, 188, 189, 190, 191, 584, 585, 586, 587, 588, 589, 590, 591, 592, 593, 594, 595] (by decide +kernel) (by decide +kernel)
set_option maxRecDepth 20000 in
theorem gL_law_X6_read : GoodIn wsL_law (wsV RL 47 RX6 yX6_read wsX6_read) := goodIn_app (goodIn_of _ (by decide +kernel)) ggL_law_X6_read
set_option maxRecDepth 20000 in
theorem ggL_law_X5_row : GoodIn wsL_law wsX5_row := goodIn_r _ [383, 16, 146, 147, 308, 148, 149, 2, 150, 162, 163, 164, 36, 165, 45, 166, 167, 168, 169, 170, 171, 172, 384, 234, 235, 15, 236, 37, 33, 237, 385, 386, 387, 388, 389, 390, 391, 578, 579, 580, 581, 582, 583, 596, 597, 598, 599, 600, 601, 602, 603, 604, 605, 606, 607, 608, 614, 615, 616, 617] (by decide +kernel) (by decide +kernel)
set_option maxRecDepth 20000 in
theorem gL_law_X5_row : GoodIn wsL_law (wsV RL 48 RX5 yX5_row wsX5_row) := goodIn_app (goodIn_of _ (by decide +kernel)) ggL_law_X5_row
set_option maxRecDepth 20000 in
theorem ggL_law_X6_row : GoodIn wsL_law wsX6_row := goodIn_r _ [395, 68, 177, 178, 5, 179, 180, 134, 135, 136, 396, 397, 398, 399, 188, 189, 190, 191, 185, 186, 187, 192, 193, 194, 195, 284, 285, 286, 287, 584, 585, 586, 587, 588, 589, 590, 591, 592, 593, 594, 595] (by decide +kernel) (by decide +kernel)
set_option maxRecDepth 20000 in
theorem gL_law_X6_row : GoodIn wsL_law (wsV RL 51 RX6 yX6_row wsX6_row) := goodIn_app (goodIn_of _ (by decide +kernel)) ggL_law_X6_row
set_option maxRecDepth 20000 in
theorem ggL_law_X5_stamped : GoodIn wsL_law wsX5_stamped := goodIn_r _ [403, 16, 146, 404, 148, 149, 2, 150, 151, 152, 153, 405, 159, 160, 36, 161, 45, 578, 579, 580, 581, 582, 583, 596, 597, 598, 599, 600, 601, 602, 603, 604, 605, 606, 607, 608, 614, 615, 616, 617] (by decide +kernel) (by decide +kernel)
set_option maxRecDepth 20000 in
theorem gL_law_X5_stamped : GoodIn wsL_law (wsV RL 52 RX5 yX5_stamped wsX5_stamped) := goodIn_app (goodIn_of _ (by decide +kernel)) ggL_law_X5_stamped
set_option maxRecDepth 20000 in
theorem ggL_law_X6_stamped : GoodIn wsL_law wsX6_stamped := goodIn_r _ [409, 68, 177, 178, 5, 179, 180, 134, 135, 136, 181, 182, 183, 184, 185, 186, 187, 584, 585, 586, 587, 588, 589, 590, 591, 592, 593, 594, 595] (by decide +kernel) (by decide +kernel)
set_option maxRecDepth 20000 in
theorem gL_law_X6_stamped : GoodIn wsL_law (wsV RL 55 RX6 yX6_stamped wsX6_stamped) := goodIn_app (goodIn_of _ (by decide +kernel)) ggL_law_X6_stamped
set_option maxRecDepth 20000 in
theorem ggL_law_X5_stamp : GoodIn wsL_law wsX5_stamp := goodIn_r _ [413, 16, 210, 211, 414, 415, 146, 416, 151, 152, 2, 153, 417, 418, 419, 36, 420, 158, 159, 160, 161, 45, 578, 579, 580, 581, 582, 583, 596, 597, 598, 599, 600, 601, 602, 603, 604, 605, 606, 607, 608, 618, 619, 620, 621, 614, 615, 616, 617] (by decide +kernel) (by decide +kernel)
set_option maxRecDepth 20000 in
theorem gL_law_X5_stamp : GoodIn wsL_law (wsV RL 56 RX5 yX5_stamp wsX5_stamp) := goodIn_app (goodIn_of _ (by decide +kernel)) ggL_law_X5_stamp
set_option maxRecDepth 20000 in
theorem ggL_law_X6_stamp : GoodIn wsL_law wsX6_stamp := goodIn_r _ [424, 68, 181, 182, 5, 183, 184, 134, 135, 136, 425, 426, 427, 428, 188, 189, 190, 191, 185, 186, 187, 584, 585, 586, 587, 588, 589, 590, 591, 592, 593, 594, 595] (by decide +kernel) (by decide +kernel)
set_option maxRecDepth 20000 in
theorem gL_law_X6_stamp : GoodIn wsL_law (wsV RL 59 RX6 yX6_stamp wsX6_stamp) := goodIn_app (goodIn_of _ (by decide +kernel)) ggL_law_X6_stamp
set_option maxRecDepth 20000 in
theorem ggL_law_X5_count : GoodIn wsL_law wsX5_count := goodIn_r _ [432, 16, 82, 146, 308, 220, 200, 318, 433, 434, 221, 435, 436, 437, 438, 439, 210, 25, 440, 21, 441, 385, 386, 2, 387, 348, 349, 350, 36, 351, 352, 163, 164, 165, 45, 166, 167, 168, 169, 170, 171, 172, 442, 443, 444, 40, 445, 51, 578, 579, 580, 581, 582, 583, 596, 597, 598, 599, 600, 601, 602, 603, 604, 605, 606, 607, 608, 614, 615, 616, 617, 612, 613, 609, 610, 611, 618, 619, 620, 621] (by decide +kernel) (by decide +kernel)
set_option maxRecDepth 20000 in
theorem gL_law_X5_count : GoodIn wsL_law (wsV RL 60 RX5 yX5_count wsX5_count) := goodIn_app (goodIn_of _ (by decide +kernel)) ggL_law_X5_count
set_option maxRecDepth 20000 in
theorem ggL_law_X6_count : GoodIn wsL_law wsX6_count := goodIn_r _ [449, 68, 358, 141, 450, 376, 377, 378, 5, 379, 192, 193, 194, 195, 188, 189, 190, 191, 185, 186, 187, 451, 452, 453, 454, 134, 135, 136, 584, 585, 586, 587, 588, 589, 590, 591, 592, 593, 594, 595] (by decide +kernel) (by decide +kernel)
set_option maxRecDepth 20000 in
theorem gL_law_X6_count : GoodIn wsL_law (wsV RL 63 RX6 yX6_count wsX6_count) := goodIn_app (goodIn_of _ (by decide +kernel)) ggL_law_X6_count
set_option maxRecDepth 20000 in
theorem ggL_law_X5_untilJam : GoodIn wsL_law wsX5_untilJam := goodIn_r _ [458, 17, 16, 220, 459, 94, 95, 15, 96, 33, 97, 98, 99, 100, 37, 41, 101, 102, 103, 104, 105, 106, 107, 108, 109, 110, 111, 112, 113, 36, 114, 45, 115, 46, 116, 117, 118, 119, 120, 40, 121, 50, 122, 51, 52, 53, 223, 224, 225, 226, 227, 228, 229, 230, 231, 232, 233, 234, 235, 236, 237, 163, 164, 165, 166, 167, 168, 169, 170, 171, 172, 238, 239, 240, 241, 242, 243, 244, 245, 246, 247, 248, 249, 250, 251, 252, 253, 254, 255, 256, 257, 258, 259, 260, 261, 262, 263, 264, 265, 266, 267, 268, 269, 578, 579, 580, 581, 582, 583, 596, 597, 598, 599, 600, 601, 602, 603, 604, 605, 606, 607, 608, 614, 615, 616, 617, 618, 619, 620, 621] (by decide +kernel) (by decide +kernel)
set_option maxRecDepth 20000 in
theorem gL_law_X5_untilJam : GoodIn wsL_law (wsV RL 64 RX5 yX5_untilJam wsX5_untilJam) := goodIn_app (goodIn_of _ (by decide +kernel)) ggL_law_X5_untilJam
set_option maxRecDepth 20000 in
theorem ggL_law_X6_untilJam : GoodIn wsL_law wsX6_untilJam := goodIn_r _ [463, 464, 465, 466, 5, 467, 69, 68, 276, 277, 278, 279, 280, 281, 282, 283, 284, 285, 286, 287, 192, 193, 194, 195, 188, 189, 190, 191, 185, 186, 187, 288, 289, 290, 291, 292, 293, 294, 295, 296, 297, 298, 299, 300, 301, 302, 303, 468, 469, 470, 471, 584, 585, 586, 587, 588, 589, 590, 591, 592, 593, 594, 595] (by decide +kernel) (by decide +kernel)
set_option maxRecDepth 20000 in
theorem gL_law_X6_untilJam : GoodIn wsL_law (wsV RL 67 RX6 yX6_untilJam wsX6_untilJam) := goodIn_app (goodIn_of _ (by decide +kernel)) ggL_law_X6_untilJam
set_option maxRecDepth 20000 in
theorem ggL_law_X5_ifStepped : GoodIn wsL_law wsX5_ifStepped := goodIn_r _ [475, 17, 16, 435, 436, 437, 210, 459, 94, 95, 15, 96, 33, 97, 98, 99, 100, 37, 41, 101, 102, 103, 104, 105, 106, 107, 108, 109, 110, 111, 112, 113, 36, 114, 45, 115, 46, 116, 117, 118, 119, 120, 40, 121, 50, 122, 51, 52, 53, 223, 224, 225, 226, 227, 228, 229, 230, 231, 232, 233, 234, 235, 236, 237, 163, 164, 165, 166, 167, 168, 169, 170, 171, 172, 238, 239, 240, 241, 242, 243, 244, 245, 246, 247, 248, 249, 250, 251, 252, 253, 254, 255, 256, 257, 258, 259, 260, 261, 262, 263, 264, 265, 266, 267, 268, 269, 442, 443, 444, 445, 578, 579, 580, 581, 582, 583, 596, 597, 598, 599, 600, 601, 602, 603, 604, 605, 606, 607, 608, 614, 615, 616, 617, 618, 619, 620, 621] (by decide +kernel) (by decide +kernel)
set_option maxRecDepth 20000 in
theorem gL_law_X5_ifStepped : GoodIn wsL_law (wsV RL 68 RX5 yX5_ifStepped wsX5_ifStepped) := goodIn_app (goodIn_of _ (by decide +kernel)) ggL_law_X5_ifStepped
set_option maxRecDepth 20000 in
theorem ggL_law_X6_ifStepped : GoodIn wsL_law wsX6_ifStepped := goodIn_r _ [479, 480, 133, 68, 69, 134, 135, 5, 136, 451, 452, 453, 454, 464, 465, 466, 467, 276, 277, 278, 279, 280, 281, 282, 283, 284, 285, 286, 287, 192, 193, 194, 195, 188, 189, 190, 191, 185, 186, 187, 288, 289, 290, 291, 292, 293, 294, 295, 296, 297, 298, 299, 300, 301, 302, 303, 468, 469, 470, 471, 584, 585, 586, 587, 588, 589, 590, 591, 592, 593, 594, 595] (by decide +kernel) (by decide +kernel)
set_option maxRecDepth 20000 in
theorem gL_law_X6_ifStepped : GoodIn wsL_law (wsV RL 71 RX6 yX6_ifStepped wsX6_ifStepped) := goodIn_app (goodIn_of _ (by decide +kernel)) ggL_law_X6_ifStepped
set_option maxRecDepth 20000 in
theorem ggL_law_X5_bestOut : GoodIn wsL_law wsX5_bestOut := goodIn_r _ [484, 16, 146, 147, 485, 473, 474, 2, 475, 17, 435, 436, 437, 210, 459, 94, 95, 15, 96, 33, 97, 98, 99, 100, 37, 41, 101, 102, 103, 104, 105, 106, 107, 108, 109, 110, 111, 112, 113, 36, 114, 45, 115, 46, 116, 117, 118, 119, 120, 40, 121, 50, 122, 51, 52, 53, 223, 224, 225, 226, 227, 228, 229, 230, 231, 232, 233, 234, 235, 236, 237, 163, 164, 165, 166, 167, 168, 169, 170, 171, 172, 238, 239, 240, 241, 242, 243, 244, 245, 246, 247, 248, 249, 250, 251, 252, 253, 254, 255, 256, 257, 258, 259, 260, 261, 262, 263, 264, 265, 266, 267, 268, 269, 442, 443, 444, 445, 405, 159, 160, 161, 486, 487, 488, 489, 154, 155, 156, 157, 158, 578, 579, 580, 581, 582, 583, 596, 597, 598, 599, 600, 601, 602, 603, 604, 605, 606, 607, 608, 614, 615, 616, 617, 618, 619, 620, 621] (by decide +kernel) (by decide +kernel)
set_option maxRecDepth 20000 in
theorem gL_law_X5_bestOut : GoodIn wsL_law (wsV RL 72 RX5 yX5_bestOut wsX5_bestOut) := goodIn_app (goodIn_of _ (by decide +kernel)) ggL_law_X5_bestOut
set_option maxRecDepth 20000 in
theorem ggL_law_X6_bestOut : GoodIn wsL_law wsX6_bestOut := goodIn_r _ [493, 68, 494, 477, 478, 5, 479, 480, 133, 69, 134, 135, 136, 451, 452, 453, 454, 464, 465, 466, 467, 276, 277, 278, 279, 280, 281, 282, 283, 284, 285, 286, 287, 192, 193, 194, 195, 188, 189, 190, 191, 185, 186, 187, 288, 289, 290, 291, 292, 293, 294, 295, 296, 297, 298, 299, 300, 301, 302, 303, 468, 469, 470, 471, 584, 585, 586, 587, 588, 589, 590, 591, 592, 593, 594, 595] (by decide +kernel) (by decide +kernel)
set_option maxRecDepth 20000 in
theorem gL_law_X6_bestOut : GoodIn wsL_law (wsV RL 75 RX6 yX6_bestOut wsX6_bestOut) := goodIn_app (goodIn_of _ (by decide +kernel)) ggL_law_X6_bestOut
set_option maxRecDepth 20000 in
theorem ggL_law_X5_nextStamps : GoodIn wsL_law wsX5_nextStamps := goodIn_r _ [498, 499, 500, 501, 2, 502, 16, 146, 308, 82, 405, 159, 160, 36, 161, 45, 503, 260, 261, 504, 505, 506, 507, 147, 388, 389, 390, 391, 578, 579, 580, 581, 582, 583, 596, 597, 598, 599, 600, 601, 602, 603, 604, 605, 606, 607, 608, 614, 615, 616, 617] (by decide +kernel) (by decide +kernel)
set_option maxRecDepth 20000 in
theorem gL_law_X5_nextStamps : GoodIn wsL_law (wsV RL 76 RX5 yX5_nextStamps wsX5_nextStamps) := goodIn_app (goodIn_of _ (by decide +kernel)) ggL_law_X5_nextStamps
set_option maxRecDepth 20000 in
theorem ggL_law_X6_nextStamps : GoodIn wsL_law wsX6_nextStamps := goodIn_r _ [511, 68, 134, 135, 5, 136, 396, 397, 398, 399, 188, 189, 190, 191, 185, 186, 187, 584, 585, 586, 587, 588, 589, 590, 591, 592, 593, 594, 595] (by decide +kernel) (by decide +kernel)
set_option maxRecDepth 20000 in
theorem gL_law_X6_nextStamps : GoodIn wsL_law (wsV RL 79 RX6 yX6_nextStamps wsX6_nextStamps) := goodIn_app (goodIn_of _ (by decide +kernel)) ggL_law_X6_nextStamps
set_option maxRecDepth 20000 in
theorem ggL_law_X5_put : GoodIn wsL_law wsX5_put := goodIn_r _ [515, 25, 440, 516, 517, 24, 518, 519, 520, 521, 522, 523, 63, 332, 578, 579, 580, 581, 582, 583, 612, 613] (by decide +kernel) (by decide +kernel)
set_option maxRecDepth 20000 in
theorem gL_law_X5_put : GoodIn wsL_law (wsV RL 82 RX5 yX5_put wsX5_put) := goodIn_app (goodIn_of _ (by decide +kernel)) ggL_law_X5_put
set_option maxRecDepth 20000 in
theorem ggL_law_X6_put : GoodIn wsL_law wsX6_put := goodIn_r _ [527, 358, 73, 528, 529, 530, 5, 531, 532, 533, 134, 135, 136, 584, 585, 586, 587, 588, 589, 590, 591, 592, 593, 594, 595] (by decide +kernel) (by decide +kernel)
set_option maxRecDepth 20000 in
theorem gL_law_X6_put : GoodIn wsL_law (wsV RL 86 RX6 yX6_put wsX6_put) := goodIn_app (goodIn_of _ (by decide +kernel)) ggL_law_X6_put
set_option maxRecDepth 20000 in
theorem ggL_law_X5_wipe : GoodIn wsL_law wsX5_wipe := goodIn_r _ [537, 25, 440, 344, 345, 346, 24, 347, 332, 578, 579, 580, 581, 582, 583, 612, 613] (by decide +kernel) (by decide +kernel)
set_option maxRecDepth 20000 in
theorem gL_law_X5_wipe : GoodIn wsL_law (wsV RL 87 RX5 yX5_wipe wsX5_wipe) := goodIn_app (goodIn_of _ (by decide +kernel)) ggL_law_X5_wipe
set_option maxRecDepth 20000 in
theorem ggL_law_X6_wipe : GoodIn wsL_law wsX6_wipe := goodIn_r _ [541, 358, 584, 585, 586, 587, 588, 589, 590, 591, 592, 593, 594, 595] (by decide +kernel) (by decide +kernel)
set_option maxRecDepth 20000 in
theorem gL_law_X6_wipe : GoodIn wsL_law (wsV RL 90 RX6 yX6_wipe wsX6_wipe) := goodIn_app (goodIn_of _ (by decide +kernel)) ggL_law_X6_wipe
set_option maxRecDepth 20000 in
theorem ggL_law_X5_fault : GoodIn wsL_law wsX5_fault := goodIn_r _ [545, 25, 328, 329, 330, 24, 331, 332, 63, 333, 334, 335, 336, 337, 338, 152, 2, 153, 578, 579, 580, 581, 582, 583, 612, 613] (by decide +kernel) (by decide +kernel)
set_option maxRecDepth 20000 in
theorem gL_law_X5_fault : GoodIn wsL_law (wsV RL 91 RX5 yX5_fault wsX5_fault) := goodIn_app (goodIn_of _ (by decide +kernel)) ggL_law_X5_fault
set_option maxRecDepth 20000 in
theorem ggL_law_X6_fault : GoodIn wsL_law wsX6_fault := goodIn_r _ [362, 363, 357, 358, 364, 365, 366, 5, 367, 73, 74, 75, 368, 369, 370, 371, 134, 135, 136, 372, 373, 374, 375, 584, 585, 586, 587, 588, 589, 590, 591, 592, 593, 594, 595] (by decide +kernel) (by decide +kernel)
set_option maxRecDepth 20000 in
theorem gL_law_X6_fault : GoodIn wsL_law (wsV RL 94 RX6 yX6_fault wsX6_fault) := goodIn_app (goodIn_of _ (by decide +kernel)) ggL_law_X6_fault
set_option maxRecDepth 20000 in
theorem ggL_law_X5_undo : GoodIn wsL_law wsX5_undo := goodIn_r _ [550, 21, 441, 16, 551, 552, 553, 20, 554, 87, 88, 58, 93, 94, 95, 15, 96, 33, 97, 98, 99, 100, 37, 41, 101, 102, 103, 104, 105, 106, 107, 108, 109, 110, 111, 112, 113, 36, 114, 45, 115, 46, 116, 117, 118, 119, 120, 40, 121, 50, 122, 51, 52, 53, 578, 579, 580, 581, 582, 583, 609, 610, 611, 596, 597, 598, 599, 600, 601, 602, 603, 604, 605, 606, 607, 608, 614, 615, 616, 617, 618, 619, 620, 621] (by decide +kernel) (by decide +kernel)
set_option maxRecDepth 20000 in
theorem gL_law_X5_undo : GoodIn wsL_law (wsV RL 95 RX5 yX5_undo wsX5_undo) := goodIn_app (goodIn_of _ (by decide +kernel)) ggL_law_X5_undo
set_option maxRecDepth 20000 in
theorem ggL_law_X6_undo : GoodIn wsL_law wsX6_undo := goodIn_r _ [558, 141, 68, 70, 584, 585, 586, 587, 588, 589, 590, 591, 592, 593, 594, 595] (by decide +kernel) (by decide +kernel)
set_option maxRecDepth 20000 in
theorem gL_law_X6_undo : GoodIn wsL_law (wsV RL 98 RX6 yX6_undo wsX6_undo) := goodIn_app (goodIn_of _ (by decide +kernel)) ggL_law_X6_undo
set_option maxRecDepth 20000 in
theorem ggL_law_X5_save : GoodIn wsL_law wsX5_save := goodIn_r _ [562, 26, 16, 28, 146, 459, 94, 95, 15, 96, 33, 97, 98, 99, 100, 37, 41, 101, 102, 103, 104, 105, 106, 107, 108, 109, 110, 111, 112, 113, 36, 114, 45, 115, 46, 116, 117, 118, 119, 120, 40, 121, 50, 122, 51, 52, 53, 348, 349, 350, 351, 352, 163, 164, 165, 166, 167, 168, 169, 170, 171, 172, 578, 579, 580, 581, 582, 583, 596, 597, 598, 599, 600, 601, 602, 603, 604, 605, 606, 607, 608, 614, 615, 616, 617, 618, 619, 620, 621] (by decide +kernel) (by decide +kernel)
set_option maxRecDepth 20000 in
theorem gL_law_X5_save : GoodIn wsL_law (wsV RL 99 RX5 yX5_save wsX5_save) := goodIn_app (goodIn_of _ (by decide +kernel)) ggL_law_X5_save
set_option maxRecDepth 20000 in
theorem ggL_law_X6_save : GoodIn wsL_law wsX6_save := goodIn_r _ [566, 71, 68, 72, 567, 568, 5, 569, 376, 377, 378, 379, 192, 193, 194, 195, 188, 189, 190, 191, 185, 186, 187, 584, 585, 586, 587, 588, 589, 590, 591, 592, 593, 594, 595] (by decide +kernel) (by decide +kernel)
set_option maxRecDepth 20000 in
theorem gL_law_X6_save : GoodIn wsL_law (wsV RL 102 RX6 yX6_save wsX6_save) := goodIn_app (goodIn_of _ (by decide +kernel)) ggL_law_X6_save
set_option maxRecDepth 20000 in
theorem ggL_law_X5_restore : GoodIn wsL_law wsX5_restore := goodIn_r _ [573, 28, 21, 16, 26, 146, 83, 84, 85, 20, 86, 58, 87, 88, 89, 90, 91, 92, 93, 94, 95, 15, 96, 33, 97, 98, 99, 100, 37, 41, 101, 102, 103, 104, 105, 106, 107, 108, 109, 110, 111, 112, 113, 36, 114, 45, 115, 46, 116, 117, 118, 119, 120, 40, 121, 50, 122, 51, 52, 53, 459, 348, 349, 350, 351, 352, 163, 164, 165, 166, 167, 168, 169, 170, 171, 172, 578, 579, 580, 581, 582, 583, 596, 597, 598, 599, 600, 601, 602, 603, 604, 605, 606, 607, 608, 609, 610, 611, 614, 615, 616, 617, 618, 619, 620, 621] (by decide +kernel) (by decide +kernel)
set_option maxRecDepth 20000 in
theorem gL_law_X5_restore : GoodIn wsL_law (wsV RL 103 RX5 yX5_restore wsX5_restore) := goodIn_app (goodIn_of _ (by decide +kernel)) ggL_law_X5_restore
set_option maxRecDepth 20000 in
theorem ggL_law_X6_restore : GoodIn wsL_law wsX6_restore := goodIn_r _ [577, 72, 68, 71, 567, 568, 5, 569, 137, 138, 139, 140, 141, 70, 376, 377, 378, 379, 192, 193, 194, 195, 188, 189, 190, 191, 185, 186, 187, 584, 585, 586, 587, 588, 589, 590, 591, 592, 593, 594, 595] (by decide +kernel) (by decide +kernel)
set_option maxRecDepth 20000 in
theorem gL_law_X6_restore : GoodIn wsL_law (wsV RL 106 RX6 yX6_restore wsX6_restore) := goodIn_app (goodIn_of _ (by decide +kernel)) ggL_law_X6_restore
theorem dL_law_0 : decode cL_law 0 = .ok (.new 7, 3) := by decide +kernel
theorem dL_law_3 : decode cL_law 3 = .ok (.dup, 1) := by decide +kernel
theorem dL_law_4 : decode cL_law 4 = .ok (.invokespecial 9, 3) := by decide +kernel
theorem dL_law_7 : decode cL_law 7 = .ok (.astore_n 1, 1) := by decide +kernel
theorem dL_law_8 : decode cL_law 8 = .ok (.new 10, 3) := by decide +kernel
theorem dL_law_11 : decode cL_law 11 = .ok (.dup, 1) := by decide +kernel
theorem dL_law_12 : decode cL_law 12 = .ok (.invokespecial 12, 3) := by decide +kernel
theorem dL_law_15 : decode cL_law 15 = .ok (.astore_n 2, 1) := by decide +kernel
theorem dL_law_16 : decode cL_law 16 = .ok (.iconst 0, 1) := by decide +kernel
theorem dL_law_17 : decode cL_law 17 = .ok (.istore_n 3, 1) := by decide +kernel
theorem dL_law_18 : decode cL_law 18 = .ok (.iload_n 3, 1) := by decide +kernel
theorem dL_law_19 : decode cL_law 19 = .ok (.aload_n 0, 1) := by decide +kernel
theorem dL_law_20 : decode cL_law 20 = .ok (.arraylength, 1) := by decide +kernel
theorem dL_law_21 : decode cL_law 21 = .ok (.iconst 3, 1) := by decide +kernel
theorem dL_law_22 : decode cL_law 22 = .ok (.isub, 1) := by decide +kernel
theorem dL_law_23 : decode cL_law 23 = .ok (.if_icmp .gt 635, 3) := by decide +kernel
theorem dL_law_26 : decode cL_law 26 = .ok (.aload_n 0, 1) := by decide +kernel
theorem dL_law_27 : decode cL_law 27 = .ok (.iload_n 3, 1) := by decide +kernel
theorem dL_law_28 : decode cL_law 28 = .ok (.iaload, 1) := by decide +kernel
theorem dL_law_29 : decode cL_law 29 = .ok (.bipush 31, 2) := by decide +kernel
theorem dL_law_31 : decode cL_law 31 = .ok (.iand, 1) := by decide +kernel
theorem dL_law_32 : decode cL_law 32 = .ok (.tableswitch 620 0 21 #[104, 137, 170, 193, 216, 239, 252, 265, 278, 311, 344, 377, 400, 413, 446, 459, 482, 535, 548, 561, 574, 597], 104) := by decide +kernel
theorem dL_law_136 : decode cL_law 136 = .ok (.aload_n 1, 1) := by decide +kernel
theorem dL_law_137 : decode cL_law 137 = .ok (.aload_n 0, 1) := by decide +kernel
theorem dL_law_138 : decode cL_law 138 = .ok (.iload_n 3, 1) := by decide +kernel
theorem dL_law_139 : decode cL_law 139 = .ok (.iconst 1, 1) := by decide +kernel
theorem dL_law_140 : decode cL_law 140 = .ok (.iadd, 1) := by decide +kernel
theorem dL_law_141 : decode cL_law 141 = .ok (.iaload, 1) := by decide +kernel
theorem dL_law_142 : decode cL_law 142 = .ok (.aload_n 0, 1) := by decide +kernel
theorem dL_law_143 : decode cL_law 143 = .ok (.iload_n 3, 1) := by decide +kernel
theorem dL_law_144 : decode cL_law 144 = .ok (.iconst 2, 1) := by decide +kernel
theorem dL_law_145 : decode cL_law 145 = .ok (.iadd, 1) := by decide +kernel
theorem dL_law_146 : decode cL_law 146 = .ok (.iaload, 1) := by decide +kernel
theorem dL_law_147 : decode cL_law 147 = .ok (.invokevirtual 13, 3) := by decide +kernel
theorem dL_law_150 : decode cL_law 150 = .ok (.aload_n 2, 1) := by decide +kernel
theorem dL_law_151 : decode cL_law 151 = .ok (.aload_n 0, 1) := by decide +kernel
theorem dL_law_152 : decode cL_law 152 = .ok (.iload_n 3, 1) := by decide +kernel
theorem dL_law_153 : decode cL_law 153 = .ok (.iconst 1, 1) := by decide +kernel
theorem dL_law_154 : decode cL_law 154 = .ok (.iadd, 1) := by decide +kernel
theorem dL_law_155 : decode cL_law 155 = .ok (.iaload, 1) := by decide +kernel
theorem dL_law_156 : decode cL_law 156 = .ok (.aload_n 0, 1) := by decide +kernel
theorem dL_law_157 : decode cL_law 157 = .ok (.iload_n 3, 1) := by decide +kernel
theorem dL_law_158 : decode cL_law 158 = .ok (.iconst 2, 1) := by decide +kernel
theorem dL_law_159 : decode cL_law 159 = .ok (.iadd, 1) := by decide +kernel
theorem dL_law_160 : decode cL_law 160 = .ok (.iaload, 1) := by decide +kernel
theorem dL_law_161 : decode cL_law 161 = .ok (.invokevirtual 17, 3) := by decide +kernel
theorem dL_law_164 : decode cL_law 164 = .ok (.if_icmp .eq 488, 3) := by decide +kernel
theorem dL_law_167 : decode cL_law 167 = .ok (.iconst 0, 1) := by decide +kernel
theorem dL_law_168 : decode cL_law 168 = .ok (.ireturn, 1) := by decide +kernel
theorem dL_law_169 : decode cL_law 169 = .ok (.aload_n 1, 1) := by decide +kernel
theorem dL_law_170 : decode cL_law 170 = .ok (.aload_n 0, 1) := by decide +kernel
theorem dL_law_171 : decode cL_law 171 = .ok (.iload_n 3, 1) := by decide +kernel
theorem dL_law_172 : decode cL_law 172 = .ok (.iconst 1, 1) := by decide +kernel
theorem dL_law_173 : decode cL_law 173 = .ok (.iadd, 1) := by decide +kernel
theorem dL_law_174 : decode cL_law 174 = .ok (.iaload, 1) := by decide +kernel
theorem dL_law_175 : decode cL_law 175 = .ok (.aload_n 0, 1) := by decide +kernel
theorem dL_law_176 : decode cL_law 176 = .ok (.iload_n 3, 1) := by decide +kernel
theorem dL_law_177 : decode cL_law 177 = .ok (.iconst 2, 1) := by decide +kernel
theorem dL_law_178 : decode cL_law 178 = .ok (.iadd, 1) := by decide +kernel
theorem dL_law_179 : decode cL_law 179 = .ok (.iaload, 1) := by decide +kernel
theorem dL_law_180 : decode cL_law 180 = .ok (.invokevirtual 18, 3) := by decide +kernel
theorem dL_law_183 : decode cL_law 183 = .ok (.aload_n 2, 1) := by decide +kernel
theorem dL_law_184 : decode cL_law 184 = .ok (.aload_n 0, 1) := by decide +kernel
theorem dL_law_185 : decode cL_law 185 = .ok (.iload_n 3, 1) := by decide +kernel
theorem dL_law_186 : decode cL_law 186 = .ok (.iconst 1, 1) := by decide +kernel
theorem dL_law_187 : decode cL_law 187 = .ok (.iadd, 1) := by decide +kernel
theorem dL_law_188 : decode cL_law 188 = .ok (.iaload, 1) := by decide +kernel
theorem dL_law_189 : decode cL_law 189 = .ok (.aload_n 0, 1) := by decide +kernel
theorem dL_law_190 : decode cL_law 190 = .ok (.iload_n 3, 1) := by decide +kernel
theorem dL_law_191 : decode cL_law 191 = .ok (.iconst 2, 1) := by decide +kernel
theorem dL_law_192 : decode cL_law 192 = .ok (.iadd, 1) := by decide +kernel
theorem dL_law_193 : decode cL_law 193 = .ok (.iaload, 1) := by decide +kernel
theorem dL_law_194 : decode cL_law 194 = .ok (.invokevirtual 21, 3) := by decide +kernel
theorem dL_law_197 : decode cL_law 197 = .ok (.if_icmp .eq 455, 3) := by decide +kernel
theorem dL_law_200 : decode cL_law 200 = .ok (.iconst 0, 1) := by decide +kernel
theorem dL_law_201 : decode cL_law 201 = .ok (.ireturn, 1) := by decide +kernel
theorem dL_law_202 : decode cL_law 202 = .ok (.aload_n 1, 1) := by decide +kernel
theorem dL_law_203 : decode cL_law 203 = .ok (.aload_n 0, 1) := by decide +kernel
theorem dL_law_204 : decode cL_law 204 = .ok (.iload_n 3, 1) := by decide +kernel
theorem dL_law_205 : decode cL_law 205 = .ok (.iconst 1, 1) := by decide +kernel
theorem dL_law_206 : decode cL_law 206 = .ok (.iadd, 1) := by decide +kernel
theorem dL_law_207 : decode cL_law 207 = .ok (.iaload, 1) := by decide +kernel
theorem dL_law_208 : decode cL_law 208 = .ok (.invokevirtual 22, 3) := by decide +kernel
theorem dL_law_211 : decode cL_law 211 = .ok (.aload_n 2, 1) := by decide +kernel
theorem dL_law_212 : decode cL_law 212 = .ok (.aload_n 0, 1) := by decide +kernel
theorem dL_law_213 : decode cL_law 213 = .ok (.iload_n 3, 1) := by decide +kernel
theorem dL_law_214 : decode cL_law 214 = .ok (.iconst 1, 1) := by decide +kernel
theorem dL_law_215 : decode cL_law 215 = .ok (.iadd, 1) := by decide +kernel
theorem dL_law_216 : decode cL_law 216 = .ok (.iaload, 1) := by decide +kernel
theorem dL_law_217 : decode cL_law 217 = .ok (.invokevirtual 26, 3) := by decide +kernel
theorem dL_law_220 : decode cL_law 220 = .ok (.if_icmp .eq 432, 3) := by decide +kernel
theorem dL_law_223 : decode cL_law 223 = .ok (.iconst 0, 1) := by decide +kernel
theorem dL_law_224 : decode cL_law 224 = .ok (.ireturn, 1) := by decide +kernel
theorem dL_law_225 : decode cL_law 225 = .ok (.aload_n 1, 1) := by decide +kernel
theorem dL_law_226 : decode cL_law 226 = .ok (.aload_n 0, 1) := by decide +kernel
theorem dL_law_227 : decode cL_law 227 = .ok (.iload_n 3, 1) := by decide +kernel
theorem dL_law_228 : decode cL_law 228 = .ok (.iconst 1, 1) := by decide +kernel
theorem dL_law_229 : decode cL_law 229 = .ok (.iadd, 1) := by decide +kernel
theorem dL_law_230 : decode cL_law 230 = .ok (.iaload, 1) := by decide +kernel
theorem dL_law_231 : decode cL_law 231 = .ok (.invokevirtual 27, 3) := by decide +kernel
theorem dL_law_234 : decode cL_law 234 = .ok (.aload_n 2, 1) := by decide +kernel
theorem dL_law_235 : decode cL_law 235 = .ok (.aload_n 0, 1) := by decide +kernel
theorem dL_law_236 : decode cL_law 236 = .ok (.iload_n 3, 1) := by decide +kernel
theorem dL_law_237 : decode cL_law 237 = .ok (.iconst 1, 1) := by decide +kernel
theorem dL_law_238 : decode cL_law 238 = .ok (.iadd, 1) := by decide +kernel
theorem dL_law_239 : decode cL_law 239 = .ok (.iaload, 1) := by decide +kernel
theorem dL_law_240 : decode cL_law 240 = .ok (.invokevirtual 30, 3) := by decide +kernel
theorem dL_law_243 : decode cL_law 243 = .ok (.if_icmp .eq 409, 3) := by decide +kernel
theorem dL_law_246 : decode cL_law 246 = .ok (.iconst 0, 1) := by decide +kernel
theorem dL_law_247 : decode cL_law 247 = .ok (.ireturn, 1) := by decide +kernel
theorem dL_law_248 : decode cL_law 248 = .ok (.aload_n 1, 1) := by decide +kernel
theorem dL_law_249 : decode cL_law 249 = .ok (.aload_n 0, 1) := by decide +kernel
theorem dL_law_250 : decode cL_law 250 = .ok (.iload_n 3, 1) := by decide +kernel
theorem dL_law_251 : decode cL_law 251 = .ok (.iconst 1, 1) := by decide +kernel
theorem dL_law_252 : decode cL_law 252 = .ok (.iadd, 1) := by decide +kernel
theorem dL_law_253 : decode cL_law 253 = .ok (.iaload, 1) := by decide +kernel
theorem dL_law_254 : decode cL_law 254 = .ok (.invokevirtual 31, 3) := by decide +kernel
theorem dL_law_257 : decode cL_law 257 = .ok (.aload_n 2, 1) := by decide +kernel
theorem dL_law_258 : decode cL_law 258 = .ok (.aload_n 0, 1) := by decide +kernel
theorem dL_law_259 : decode cL_law 259 = .ok (.iload_n 3, 1) := by decide +kernel
theorem dL_law_260 : decode cL_law 260 = .ok (.iconst 1, 1) := by decide +kernel
theorem dL_law_261 : decode cL_law 261 = .ok (.iadd, 1) := by decide +kernel
theorem dL_law_262 : decode cL_law 262 = .ok (.iaload, 1) := by decide +kernel
theorem dL_law_263 : decode cL_law 263 = .ok (.invokevirtual 34, 3) := by decide +kernel
theorem dL_law_266 : decode cL_law 266 = .ok (.if_icmp .eq 386, 3) := by decide +kernel
theorem dL_law_269 : decode cL_law 269 = .ok (.iconst 0, 1) := by decide +kernel
theorem dL_law_270 : decode cL_law 270 = .ok (.ireturn, 1) := by decide +kernel
theorem dL_law_271 : decode cL_law 271 = .ok (.aload_n 1, 1) := by decide +kernel
theorem dL_law_272 : decode cL_law 272 = .ok (.invokevirtual 35, 3) := by decide +kernel
theorem dL_law_275 : decode cL_law 275 = .ok (.aload_n 2, 1) := by decide +kernel
theorem dL_law_276 : decode cL_law 276 = .ok (.invokevirtual 39, 3) := by decide +kernel
theorem dL_law_279 : decode cL_law 279 = .ok (.if_icmp .eq 373, 3) := by decide +kernel
theorem dL_law_282 : decode cL_law 282 = .ok (.iconst 0, 1) := by decide +kernel
theorem dL_law_283 : decode cL_law 283 = .ok (.ireturn, 1) := by decide +kernel
theorem dL_law_284 : decode cL_law 284 = .ok (.aload_n 1, 1) := by decide +kernel
theorem dL_law_285 : decode cL_law 285 = .ok (.invokevirtual 40, 3) := by decide +kernel
theorem dL_law_288 : decode cL_law 288 = .ok (.aload_n 2, 1) := by decide +kernel
theorem dL_law_289 : decode cL_law 289 = .ok (.invokevirtual 43, 3) := by decide +kernel
theorem dL_law_292 : decode cL_law 292 = .ok (.if_icmp .eq 360, 3) := by decide +kernel
theorem dL_law_295 : decode cL_law 295 = .ok (.iconst 0, 1) := by decide +kernel
theorem dL_law_296 : decode cL_law 296 = .ok (.ireturn, 1) := by decide +kernel
theorem dL_law_297 : decode cL_law 297 = .ok (.aload_n 1, 1) := by decide +kernel
theorem dL_law_298 : decode cL_law 298 = .ok (.invokevirtual 44, 3) := by decide +kernel
theorem dL_law_301 : decode cL_law 301 = .ok (.aload_n 2, 1) := by decide +kernel
theorem dL_law_302 : decode cL_law 302 = .ok (.invokevirtual 47, 3) := by decide +kernel
theorem dL_law_305 : decode cL_law 305 = .ok (.if_icmp .eq 347, 3) := by decide +kernel
theorem dL_law_308 : decode cL_law 308 = .ok (.iconst 0, 1) := by decide +kernel
theorem dL_law_309 : decode cL_law 309 = .ok (.ireturn, 1) := by decide +kernel
theorem dL_law_310 : decode cL_law 310 = .ok (.aload_n 1, 1) := by decide +kernel
theorem dL_law_311 : decode cL_law 311 = .ok (.aload_n 0, 1) := by decide +kernel
theorem dL_law_312 : decode cL_law 312 = .ok (.iload_n 3, 1) := by decide +kernel
theorem dL_law_313 : decode cL_law 313 = .ok (.iconst 1, 1) := by decide +kernel
theorem dL_law_314 : decode cL_law 314 = .ok (.iadd, 1) := by decide +kernel
theorem dL_law_315 : decode cL_law 315 = .ok (.iaload, 1) := by decide +kernel
theorem dL_law_316 : decode cL_law 316 = .ok (.aload_n 0, 1) := by decide +kernel
theorem dL_law_317 : decode cL_law 317 = .ok (.iload_n 3, 1) := by decide +kernel
theorem dL_law_318 : decode cL_law 318 = .ok (.iconst 2, 1) := by decide +kernel
theorem dL_law_319 : decode cL_law 319 = .ok (.iadd, 1) := by decide +kernel
theorem dL_law_320 : decode cL_law 320 = .ok (.iaload, 1) := by decide +kernel
theorem dL_law_321 : decode cL_law 321 = .ok (.invokevirtual 48, 3) := by decide +kernel
theorem dL_law_324 : decode cL_law 324 = .ok (.aload_n 2, 1) := by decide +kernel
theorem dL_law_325 : decode cL_law 325 = .ok (.aload_n 0, 1) := by decide +kernel
theorem dL_law_326 : decode cL_law 326 = .ok (.iload_n 3, 1) := by decide +kernel
theorem dL_law_327 : decode cL_law 327 = .ok (.iconst 1, 1) := by decide +kernel
theorem dL_law_328 : decode cL_law 328 = .ok (.iadd, 1) := by decide +kernel
theorem dL_law_329 : decode cL_law 329 = .ok (.iaload, 1) := by decide +kernel
theorem dL_law_330 : decode cL_law 330 = .ok (.aload_n 0, 1) := by decide +kernel
theorem dL_law_331 : decode cL_law 331 = .ok (.iload_n 3, 1) := by decide +kernel
theorem dL_law_332 : decode cL_law 332 = .ok (.iconst 2, 1) := by decide +kernel
theorem dL_law_333 : decode cL_law 333 = .ok (.iadd, 1) := by decide +kernel
theorem dL_law_334 : decode cL_law 334 = .ok (.iaload, 1) := by decide +kernel
theorem dL_law_335 : decode cL_law 335 = .ok (.invokevirtual 51, 3) := by decide +kernel
theorem dL_law_338 : decode cL_law 338 = .ok (.if_icmp .eq 314, 3) := by decide +kernel
theorem dL_law_341 : decode cL_law 341 = .ok (.iconst 0, 1) := by decide +kernel
theorem dL_law_342 : decode cL_law 342 = .ok (.ireturn, 1) := by decide +kernel
theorem dL_law_343 : decode cL_law 343 = .ok (.aload_n 1, 1) := by decide +kernel
theorem dL_law_344 : decode cL_law 344 = .ok (.aload_n 0, 1) := by decide +kernel
theorem dL_law_345 : decode cL_law 345 = .ok (.iload_n 3, 1) := by decide +kernel
theorem dL_law_346 : decode cL_law 346 = .ok (.iconst 1, 1) := by decide +kernel
theorem dL_law_347 : decode cL_law 347 = .ok (.iadd, 1) := by decide +kernel
theorem dL_law_348 : decode cL_law 348 = .ok (.iaload, 1) := by decide +kernel
theorem dL_law_349 : decode cL_law 349 = .ok (.aload_n 0, 1) := by decide +kernel
theorem dL_law_350 : decode cL_law 350 = .ok (.iload_n 3, 1) := by decide +kernel
theorem dL_law_351 : decode cL_law 351 = .ok (.iconst 2, 1) := by decide +kernel
theorem dL_law_352 : decode cL_law 352 = .ok (.iadd, 1) := by decide +kernel
theorem dL_law_353 : decode cL_law 353 = .ok (.iaload, 1) := by decide +kernel
theorem dL_law_354 : decode cL_law 354 = .ok (.invokevirtual 52, 3) := by decide +kernel
theorem dL_law_357 : decode cL_law 357 = .ok (.aload_n 2, 1) := by decide +kernel
theorem dL_law_358 : decode cL_law 358 = .ok (.aload_n 0, 1) := by decide +kernel
theorem dL_law_359 : decode cL_law 359 = .ok (.iload_n 3, 1) := by decide +kernel
theorem dL_law_360 : decode cL_law 360 = .ok (.iconst 1, 1) := by decide +kernel
theorem dL_law_361 : decode cL_law 361 = .ok (.iadd, 1) := by decide +kernel
theorem dL_law_362 : decode cL_law 362 = .ok (.iaload, 1) := by decide +kernel
theorem dL_law_363 : decode cL_law 363 = .ok (.aload_n 0, 1) := by decide +kernel
theorem dL_law_364 : decode cL_law 364 = .ok (.iload_n 3, 1) := by decide +kernel
theorem dL_law_365 : decode cL_law 365 = .ok (.iconst 2, 1) := by decide +kernel
theorem dL_law_366 : decode cL_law 366 = .ok (.iadd, 1) := by decide +kernel
theorem dL_law_367 : decode cL_law 367 = .ok (.iaload, 1) := by decide +kernel
theorem dL_law_368 : decode cL_law 368 = .ok (.invokevirtual 55, 3) := by decide +kernel
theorem dL_law_371 : decode cL_law 371 = .ok (.if_icmp .eq 281, 3) := by decide +kernel
theorem dL_law_374 : decode cL_law 374 = .ok (.iconst 0, 1) := by decide +kernel
theorem dL_law_375 : decode cL_law 375 = .ok (.ireturn, 1) := by decide +kernel
theorem dL_law_376 : decode cL_law 376 = .ok (.aload_n 1, 1) := by decide +kernel
theorem dL_law_377 : decode cL_law 377 = .ok (.aload_n 0, 1) := by decide +kernel
theorem dL_law_378 : decode cL_law 378 = .ok (.iload_n 3, 1) := by decide +kernel
theorem dL_law_379 : decode cL_law 379 = .ok (.iconst 1, 1) := by decide +kernel
theorem dL_law_380 : decode cL_law 380 = .ok (.iadd, 1) := by decide +kernel
theorem dL_law_381 : decode cL_law 381 = .ok (.iaload, 1) := by decide +kernel
theorem dL_law_382 : decode cL_law 382 = .ok (.aload_n 0, 1) := by decide +kernel
theorem dL_law_383 : decode cL_law 383 = .ok (.iload_n 3, 1) := by decide +kernel
theorem dL_law_384 : decode cL_law 384 = .ok (.iconst 2, 1) := by decide +kernel
theorem dL_law_385 : decode cL_law 385 = .ok (.iadd, 1) := by decide +kernel
theorem dL_law_386 : decode cL_law 386 = .ok (.iaload, 1) := by decide +kernel
theorem dL_law_387 : decode cL_law 387 = .ok (.invokevirtual 56, 3) := by decide +kernel
theorem dL_law_390 : decode cL_law 390 = .ok (.aload_n 2, 1) := by decide +kernel
theorem dL_law_391 : decode cL_law 391 = .ok (.aload_n 0, 1) := by decide +kernel
theorem dL_law_392 : decode cL_law 392 = .ok (.iload_n 3, 1) := by decide +kernel
theorem dL_law_393 : decode cL_law 393 = .ok (.iconst 1, 1) := by decide +kernel
theorem dL_law_394 : decode cL_law 394 = .ok (.iadd, 1) := by decide +kernel
theorem dL_law_395 : decode cL_law 395 = .ok (.iaload, 1) := by decide +kernel
theorem dL_law_396 : decode cL_law 396 = .ok (.aload_n 0, 1) := by decide +kernel
theorem dL_law_397 : decode cL_law 397 = .ok (.iload_n 3, 1) := by decide +kernel
theorem dL_law_398 : decode cL_law 398 = .ok (.iconst 2, 1) := by decide +kernel
theorem dL_law_399 : decode cL_law 399 = .ok (.iadd, 1) := by decide +kernel
theorem dL_law_400 : decode cL_law 400 = .ok (.iaload, 1) := by decide +kernel
theorem dL_law_401 : decode cL_law 401 = .ok (.invokevirtual 59, 3) := by decide +kernel
theorem dL_law_404 : decode cL_law 404 = .ok (.if_icmp .eq 248, 3) := by decide +kernel
theorem dL_law_407 : decode cL_law 407 = .ok (.iconst 0, 1) := by decide +kernel
theorem dL_law_408 : decode cL_law 408 = .ok (.ireturn, 1) := by decide +kernel
theorem dL_law_409 : decode cL_law 409 = .ok (.aload_n 1, 1) := by decide +kernel
theorem dL_law_410 : decode cL_law 410 = .ok (.aload_n 0, 1) := by decide +kernel
theorem dL_law_411 : decode cL_law 411 = .ok (.iload_n 3, 1) := by decide +kernel
theorem dL_law_412 : decode cL_law 412 = .ok (.iconst 1, 1) := by decide +kernel
theorem dL_law_413 : decode cL_law 413 = .ok (.iadd, 1) := by decide +kernel
theorem dL_law_414 : decode cL_law 414 = .ok (.iaload, 1) := by decide +kernel
theorem dL_law_415 : decode cL_law 415 = .ok (.invokevirtual 60, 3) := by decide +kernel
theorem dL_law_418 : decode cL_law 418 = .ok (.aload_n 2, 1) := by decide +kernel
theorem dL_law_419 : decode cL_law 419 = .ok (.aload_n 0, 1) := by decide +kernel
theorem dL_law_420 : decode cL_law 420 = .ok (.iload_n 3, 1) := by decide +kernel
theorem dL_law_421 : decode cL_law 421 = .ok (.iconst 1, 1) := by decide +kernel
theorem dL_law_422 : decode cL_law 422 = .ok (.iadd, 1) := by decide +kernel
theorem dL_law_423 : decode cL_law 423 = .ok (.iaload, 1) := by decide +kernel
theorem dL_law_424 : decode cL_law 424 = .ok (.invokevirtual 63, 3) := by decide +kernel
theorem dL_law_427 : decode cL_law 427 = .ok (.if_icmp .eq 225, 3) := by decide +kernel
theorem dL_law_430 : decode cL_law 430 = .ok (.iconst 0, 1) := by decide +kernel
theorem dL_law_431 : decode cL_law 431 = .ok (.ireturn, 1) := by decide +kernel
theorem dL_law_432 : decode cL_law 432 = .ok (.aload_n 1, 1) := by decide +kernel
theorem dL_law_433 : decode cL_law 433 = .ok (.invokevirtual 64, 3) := by decide +kernel
theorem dL_law_436 : decode cL_law 436 = .ok (.aload_n 2, 1) := by decide +kernel
theorem dL_law_437 : decode cL_law 437 = .ok (.invokevirtual 67, 3) := by decide +kernel
theorem dL_law_440 : decode cL_law 440 = .ok (.if_icmp .eq 212, 3) := by decide +kernel
theorem dL_law_443 : decode cL_law 443 = .ok (.iconst 0, 1) := by decide +kernel
theorem dL_law_444 : decode cL_law 444 = .ok (.ireturn, 1) := by decide +kernel
theorem dL_law_445 : decode cL_law 445 = .ok (.aload_n 1, 1) := by decide +kernel
theorem dL_law_446 : decode cL_law 446 = .ok (.aload_n 0, 1) := by decide +kernel
theorem dL_law_447 : decode cL_law 447 = .ok (.iload_n 3, 1) := by decide +kernel
theorem dL_law_448 : decode cL_law 448 = .ok (.iconst 1, 1) := by decide +kernel
theorem dL_law_449 : decode cL_law 449 = .ok (.iadd, 1) := by decide +kernel
theorem dL_law_450 : decode cL_law 450 = .ok (.iaload, 1) := by decide +kernel
theorem dL_law_451 : decode cL_law 451 = .ok (.aload_n 0, 1) := by decide +kernel
theorem dL_law_452 : decode cL_law 452 = .ok (.iload_n 3, 1) := by decide +kernel
theorem dL_law_453 : decode cL_law 453 = .ok (.iconst 2, 1) := by decide +kernel
theorem dL_law_454 : decode cL_law 454 = .ok (.iadd, 1) := by decide +kernel
theorem dL_law_455 : decode cL_law 455 = .ok (.iaload, 1) := by decide +kernel
theorem dL_law_456 : decode cL_law 456 = .ok (.invokevirtual 68, 3) := by decide +kernel
theorem dL_law_459 : decode cL_law 459 = .ok (.aload_n 2, 1) := by decide +kernel
theorem dL_law_460 : decode cL_law 460 = .ok (.aload_n 0, 1) := by decide +kernel
theorem dL_law_461 : decode cL_law 461 = .ok (.iload_n 3, 1) := by decide +kernel
theorem dL_law_462 : decode cL_law 462 = .ok (.iconst 1, 1) := by decide +kernel
theorem dL_law_463 : decode cL_law 463 = .ok (.iadd, 1) := by decide +kernel
theorem dL_law_464 : decode cL_law 464 = .ok (.iaload, 1) := by decide +kernel
theorem dL_law_465 : decode cL_law 465 = .ok (.aload_n 0, 1) := by decide +kernel
theorem dL_law_466 : decode cL_law 466 = .ok (.iload_n 3, 1) := by decide +kernel
theorem dL_law_467 : decode cL_law 467 = .ok (.iconst 2, 1) := by decide +kernel
theorem dL_law_468 : decode cL_law 468 = .ok (.iadd, 1) := by decide +kernel
theorem dL_law_469 : decode cL_law 469 = .ok (.iaload, 1) := by decide +kernel
theorem dL_law_470 : decode cL_law 470 = .ok (.invokevirtual 71, 3) := by decide +kernel
theorem dL_law_473 : decode cL_law 473 = .ok (.if_icmp .eq 179, 3) := by decide +kernel
theorem dL_law_476 : decode cL_law 476 = .ok (.iconst 0, 1) := by decide +kernel
theorem dL_law_477 : decode cL_law 477 = .ok (.ireturn, 1) := by decide +kernel
theorem dL_law_478 : decode cL_law 478 = .ok (.aload_n 1, 1) := by decide +kernel
theorem dL_law_479 : decode cL_law 479 = .ok (.invokevirtual 72, 3) := by decide +kernel
theorem dL_law_482 : decode cL_law 482 = .ok (.aload_n 2, 1) := by decide +kernel
theorem dL_law_483 : decode cL_law 483 = .ok (.invokevirtual 75, 3) := by decide +kernel
theorem dL_law_486 : decode cL_law 486 = .ok (.if_icmp .eq 166, 3) := by decide +kernel
theorem dL_law_489 : decode cL_law 489 = .ok (.iconst 0, 1) := by decide +kernel
theorem dL_law_490 : decode cL_law 490 = .ok (.ireturn, 1) := by decide +kernel
theorem dL_law_491 : decode cL_law 491 = .ok (.aload_n 1, 1) := by decide +kernel
theorem dL_law_492 : decode cL_law 492 = .ok (.aload_n 0, 1) := by decide +kernel
theorem dL_law_493 : decode cL_law 493 = .ok (.iload_n 3, 1) := by decide +kernel
theorem dL_law_494 : decode cL_law 494 = .ok (.iconst 1, 1) := by decide +kernel
theorem dL_law_495 : decode cL_law 495 = .ok (.iadd, 1) := by decide +kernel
theorem dL_law_496 : decode cL_law 496 = .ok (.iaload, 1) := by decide +kernel
theorem dL_law_497 : decode cL_law 497 = .ok (.invokevirtual 76, 3) := by decide +kernel
theorem dL_law_500 : decode cL_law 500 = .ok (.aload_n 2, 1) := by decide +kernel
theorem dL_law_501 : decode cL_law 501 = .ok (.aload_n 0, 1) := by decide +kernel
theorem dL_law_502 : decode cL_law 502 = .ok (.iload_n 3, 1) := by decide +kernel
theorem dL_law_503 : decode cL_law 503 = .ok (.iconst 1, 1) := by decide +kernel
theorem dL_law_504 : decode cL_law 504 = .ok (.iadd, 1) := by decide +kernel
theorem dL_law_505 : decode cL_law 505 = .ok (.iaload, 1) := by decide +kernel
theorem dL_law_506 : decode cL_law 506 = .ok (.invokevirtual 79, 3) := by decide +kernel
theorem dL_law_509 : decode cL_law 509 = .ok (.if_icmp .eq 143, 3) := by decide +kernel
theorem dL_law_512 : decode cL_law 512 = .ok (.iconst 0, 1) := by decide +kernel
theorem dL_law_513 : decode cL_law 513 = .ok (.ireturn, 1) := by decide +kernel
theorem dL_law_514 : decode cL_law 514 = .ok (.aload_n 1, 1) := by decide +kernel
theorem dL_law_515 : decode cL_law 515 = .ok (.aload_n 0, 1) := by decide +kernel
theorem dL_law_516 : decode cL_law 516 = .ok (.iload_n 3, 1) := by decide +kernel
theorem dL_law_517 : decode cL_law 517 = .ok (.iconst 1, 1) := by decide +kernel
theorem dL_law_518 : decode cL_law 518 = .ok (.iadd, 1) := by decide +kernel
theorem dL_law_519 : decode cL_law 519 = .ok (.iaload, 1) := by decide +kernel
theorem dL_law_520 : decode cL_law 520 = .ok (.i2l, 1) := by decide +kernel
theorem dL_law_521 : decode cL_law 521 = .ok (.bipush 32, 2) := by decide +kernel
theorem dL_law_523 : decode cL_law 523 = .ok (.lshl, 1) := by decide +kernel
theorem dL_law_524 : decode cL_law 524 = .ok (.aload_n 0, 1) := by decide +kernel
theorem dL_law_525 : decode cL_law 525 = .ok (.iload_n 3, 1) := by decide +kernel
theorem dL_law_526 : decode cL_law 526 = .ok (.iconst 2, 1) := by decide +kernel
theorem dL_law_527 : decode cL_law 527 = .ok (.iadd, 1) := by decide +kernel
theorem dL_law_528 : decode cL_law 528 = .ok (.iaload, 1) := by decide +kernel
theorem dL_law_529 : decode cL_law 529 = .ok (.i2l, 1) := by decide +kernel
theorem dL_law_530 : decode cL_law 530 = .ok (.ldc2_w 80, 3) := by decide +kernel
theorem dL_law_533 : decode cL_law 533 = .ok (.land, 1) := by decide +kernel
theorem dL_law_534 : decode cL_law 534 = .ok (.lor, 1) := by decide +kernel
theorem dL_law_535 : decode cL_law 535 = .ok (.invokevirtual 82, 3) := by decide +kernel
theorem dL_law_538 : decode cL_law 538 = .ok (.aload_n 2, 1) := by decide +kernel
theorem dL_law_539 : decode cL_law 539 = .ok (.aload_n 0, 1) := by decide +kernel
theorem dL_law_540 : decode cL_law 540 = .ok (.iload_n 3, 1) := by decide +kernel
theorem dL_law_541 : decode cL_law 541 = .ok (.iconst 1, 1) := by decide +kernel
theorem dL_law_542 : decode cL_law 542 = .ok (.iadd, 1) := by decide +kernel
theorem dL_law_543 : decode cL_law 543 = .ok (.iaload, 1) := by decide +kernel
theorem dL_law_544 : decode cL_law 544 = .ok (.i2l, 1) := by decide +kernel
theorem dL_law_545 : decode cL_law 545 = .ok (.bipush 32, 2) := by decide +kernel
theorem dL_law_547 : decode cL_law 547 = .ok (.lshl, 1) := by decide +kernel
theorem dL_law_548 : decode cL_law 548 = .ok (.aload_n 0, 1) := by decide +kernel
theorem dL_law_549 : decode cL_law 549 = .ok (.iload_n 3, 1) := by decide +kernel
theorem dL_law_550 : decode cL_law 550 = .ok (.iconst 2, 1) := by decide +kernel
theorem dL_law_551 : decode cL_law 551 = .ok (.iadd, 1) := by decide +kernel
theorem dL_law_552 : decode cL_law 552 = .ok (.iaload, 1) := by decide +kernel
theorem dL_law_553 : decode cL_law 553 = .ok (.i2l, 1) := by decide +kernel
theorem dL_law_554 : decode cL_law 554 = .ok (.ldc2_w 80, 3) := by decide +kernel
theorem dL_law_557 : decode cL_law 557 = .ok (.land, 1) := by decide +kernel
theorem dL_law_558 : decode cL_law 558 = .ok (.lor, 1) := by decide +kernel
theorem dL_law_559 : decode cL_law 559 = .ok (.invokevirtual 86, 3) := by decide +kernel
theorem dL_law_562 : decode cL_law 562 = .ok (.if_icmp .eq 90, 3) := by decide +kernel
theorem dL_law_565 : decode cL_law 565 = .ok (.iconst 0, 1) := by decide +kernel
theorem dL_law_566 : decode cL_law 566 = .ok (.ireturn, 1) := by decide +kernel
theorem dL_law_567 : decode cL_law 567 = .ok (.aload_n 1, 1) := by decide +kernel
theorem dL_law_568 : decode cL_law 568 = .ok (.invokevirtual 87, 3) := by decide +kernel
theorem dL_law_571 : decode cL_law 571 = .ok (.aload_n 2, 1) := by decide +kernel
theorem dL_law_572 : decode cL_law 572 = .ok (.invokevirtual 90, 3) := by decide +kernel
theorem dL_law_575 : decode cL_law 575 = .ok (.if_icmp .eq 77, 3) := by decide +kernel
theorem dL_law_578 : decode cL_law 578 = .ok (.iconst 0, 1) := by decide +kernel
theorem dL_law_579 : decode cL_law 579 = .ok (.ireturn, 1) := by decide +kernel
theorem dL_law_580 : decode cL_law 580 = .ok (.aload_n 1, 1) := by decide +kernel
theorem dL_law_581 : decode cL_law 581 = .ok (.invokevirtual 91, 3) := by decide +kernel
theorem dL_law_584 : decode cL_law 584 = .ok (.aload_n 2, 1) := by decide +kernel
theorem dL_law_585 : decode cL_law 585 = .ok (.invokevirtual 94, 3) := by decide +kernel
theorem dL_law_588 : decode cL_law 588 = .ok (.if_icmp .eq 64, 3) := by decide +kernel
theorem dL_law_591 : decode cL_law 591 = .ok (.iconst 0, 1) := by decide +kernel
theorem dL_law_592 : decode cL_law 592 = .ok (.ireturn, 1) := by decide +kernel
theorem dL_law_593 : decode cL_law 593 = .ok (.aload_n 1, 1) := by decide +kernel
theorem dL_law_594 : decode cL_law 594 = .ok (.invokevirtual 95, 3) := by decide +kernel
theorem dL_law_597 : decode cL_law 597 = .ok (.aload_n 2, 1) := by decide +kernel
theorem dL_law_598 : decode cL_law 598 = .ok (.invokevirtual 98, 3) := by decide +kernel
theorem dL_law_601 : decode cL_law 601 = .ok (.if_icmp .eq 51, 3) := by decide +kernel
theorem dL_law_604 : decode cL_law 604 = .ok (.iconst 0, 1) := by decide +kernel
theorem dL_law_605 : decode cL_law 605 = .ok (.ireturn, 1) := by decide +kernel
theorem dL_law_606 : decode cL_law 606 = .ok (.aload_n 1, 1) := by decide +kernel
theorem dL_law_607 : decode cL_law 607 = .ok (.aload_n 0, 1) := by decide +kernel
theorem dL_law_608 : decode cL_law 608 = .ok (.iload_n 3, 1) := by decide +kernel
theorem dL_law_609 : decode cL_law 609 = .ok (.iconst 1, 1) := by decide +kernel
theorem dL_law_610 : decode cL_law 610 = .ok (.iadd, 1) := by decide +kernel
theorem dL_law_611 : decode cL_law 611 = .ok (.iaload, 1) := by decide +kernel
theorem dL_law_612 : decode cL_law 612 = .ok (.invokevirtual 99, 3) := by decide +kernel
theorem dL_law_615 : decode cL_law 615 = .ok (.aload_n 2, 1) := by decide +kernel
theorem dL_law_616 : decode cL_law 616 = .ok (.aload_n 0, 1) := by decide +kernel
theorem dL_law_617 : decode cL_law 617 = .ok (.iload_n 3, 1) := by decide +kernel
theorem dL_law_618 : decode cL_law 618 = .ok (.iconst 1, 1) := by decide +kernel
theorem dL_law_619 : decode cL_law 619 = .ok (.iadd, 1) := by decide +kernel
theorem dL_law_620 : decode cL_law 620 = .ok (.iaload, 1) := by decide +kernel
theorem dL_law_621 : decode cL_law 621 = .ok (.invokevirtual 102, 3) := by decide +kernel
theorem dL_law_624 : decode cL_law 624 = .ok (.if_icmp .eq 28, 3) := by decide +kernel
theorem dL_law_627 : decode cL_law 627 = .ok (.iconst 0, 1) := by decide +kernel
theorem dL_law_628 : decode cL_law 628 = .ok (.ireturn, 1) := by decide +kernel
theorem dL_law_629 : decode cL_law 629 = .ok (.aload_n 1, 1) := by decide +kernel
theorem dL_law_630 : decode cL_law 630 = .ok (.aload_n 0, 1) := by decide +kernel
theorem dL_law_631 : decode cL_law 631 = .ok (.iload_n 3, 1) := by decide +kernel
theorem dL_law_632 : decode cL_law 632 = .ok (.iconst 1, 1) := by decide +kernel
theorem dL_law_633 : decode cL_law 633 = .ok (.iadd, 1) := by decide +kernel
theorem dL_law_634 : decode cL_law 634 = .ok (.iaload, 1) := by decide +kernel
theorem dL_law_635 : decode cL_law 635 = .ok (.invokevirtual 103, 3) := by decide +kernel
theorem dL_law_638 : decode cL_law 638 = .ok (.aload_n 2, 1) := by decide +kernel
theorem dL_law_639 : decode cL_law 639 = .ok (.aload_n 0, 1) := by decide +kernel
theorem dL_law_640 : decode cL_law 640 = .ok (.iload_n 3, 1) := by decide +kernel
theorem dL_law_641 : decode cL_law 641 = .ok (.iconst 1, 1) := by decide +kernel
theorem dL_law_642 : decode cL_law 642 = .ok (.iadd, 1) := by decide +kernel
theorem dL_law_643 : decode cL_law 643 = .ok (.iaload, 1) := by decide +kernel
theorem dL_law_644 : decode cL_law 644 = .ok (.invokevirtual 106, 3) := by decide +kernel
theorem dL_law_647 : decode cL_law 647 = .ok (.if_icmp .eq 5, 3) := by decide +kernel
theorem dL_law_650 : decode cL_law 650 = .ok (.iconst 0, 1) := by decide +kernel
theorem dL_law_651 : decode cL_law 651 = .ok (.ireturn, 1) := by decide +kernel
theorem dL_law_652 : decode cL_law 652 = .ok (.iinc 3 3, 3) := by decide +kernel
theorem dL_law_655 : decode cL_law 655 = .ok (.goto (-637), 3) := by decide +kernel
theorem dL_law_658 : decode cL_law 658 = .ok (.iconst 1, 1) := by decide +kernel
theorem dL_law_659 : decode cL_law 659 = .ok (.ireturn, 1) := by decide +kernel
abbrev vwCl : List vw_C := [(RX0, TX0, 13), (RX1, TX1, 4), (RX2, TX2, 3), (RX3, TX3, 2), (RX4, TX4, 4), (RX5, TX5, 6), (RX6, TX6, 12)]
end
section
/-! The worlds: blocks of cells, and a contract that says just what a method does to them. -/
theorem zP_iff {D : va_G} {cl : List vw_C} {X : va_W} {H : Heap} : va_P D cl X H ↔ ∀ x ∈ X, va_at D cl x H := by
  constructor
  · intro h x hx
    obtain ⟨k, hk⟩ := List.getElem?_of_mem hx
    exact h k x hk
  · intro h k x hk
    exact h x (List.mem_of_getElem? hk)
theorem zD_iff {A : Nat → Prop} {X : va_W} : va_D A X ↔ (X.map Prod.fst).Nodup ∧ ∀ x ∈ X, A x.1 := by
  constructor
  · intro h
    obtain ⟨h1, h2⟩ := h
    refine ⟨?_, fun x hx => ?_⟩
    · rw [List.Nodup, List.pairwise_map, List.pairwise_iff_getElem]
      intro i j hi hj hij e
      exact absurd (h1 i j X[i] X[j] (by simp) (by simp) e) (by omega)
    · obtain ⟨k, hk⟩ := List.getElem?_of_mem hx
      exact h2 k x hk
  · intro h
    obtain ⟨h1, h2⟩ := h
    refine ⟨fun i j p q hi hj e => ?_, fun k q hk => h2 q (List.mem_of_getElem? hk)⟩
    rw [List.Nodup, List.pairwise_map, List.pairwise_iff_getElem] at h1
    obtain ⟨hi', rfl⟩ := List.getElem?_eq_some_iff.mp hi
    obtain ⟨hj', rfl⟩ := List.getElem?_eq_some_iff.mp hj
    rcases Nat.lt_trichotomy i j with h | h | h
    · exact absurd e (h1 i j hi' hj' h)
    · exact h
    · exact absurd e.symm (h1 j i hj' hi' h)
theorem zP_perm {D : va_G} {cl : List vw_C} {X Y : va_W} {H : Heap} (h : va_P D cl X H) (p : X.Perm Y) : va_P D cl Y H := zP_iff.mpr (fun x hx => zP_iff.mp h x (p.mem_iff.mpr hx))
theorem zD_perm {A : Nat → Prop} {X Y : va_W} (h : va_D A X) (p : X.Perm Y) : va_D A Y := by
  obtain ⟨h1, h2⟩ := zD_iff.mp h
  exact zD_iff.mpr ⟨((p.map Prod.fst).nodup_iff).mp h1, fun x hx => h2 x (p.mem_iff.mpr hx)⟩
theorem zD_left {A : Nat → Prop} {X Y : va_W} (h : va_D A (X ++ Y)) : va_D A X := by
  obtain ⟨h1, h2⟩ := zD_iff.mp h
  rw [List.map_append, List.nodup_append] at h1
  exact zD_iff.mpr ⟨h1.1, fun x hx => h2 x (List.mem_append_left _ hx)⟩
theorem zP_left {D : va_G} {cl : List vw_C} {X Y : va_W} {H : Heap} (h : va_P D cl (X ++ Y) H) : va_P D cl X H := zP_iff.mpr (fun x hx => zP_iff.mp h x (List.mem_append_left _ hx))
theorem zP_right {D : va_G} {cl : List vw_C} {X Y : va_W} {H : Heap} (h : va_P D cl (X ++ Y) H) : va_P D cl Y H := zP_iff.mpr (fun x hx => zP_iff.mp h x (List.mem_append_right _ hx))
theorem zjoin {A0 : Nat → Prop} {D : va_G} {cl : List vw_C} {Xc Xr X1 : va_W} {H H1 : Heap} (hP : va_P D cl (Xc ++ Xr) H) (hD : va_D A0 (Xc ++ Xr)) (hk : ∀ q : Nat, q < H.size → ¬ va_A Xc H.size q → H1[q]? = H[q]?) (hF : ∀ q, va_A Xc H.size q → A0 q) (hP1 : va_P D cl X1 H1) (hD1 : va_D (va_A Xc H.size) X1) : va_P D cl (X1 ++ Xr) H1 ∧ va_D A0 (X1 ++ Xr) := by
  obtain ⟨hd1, hd2⟩ := zD_iff.mp hD
  obtain ⟨he1, he2⟩ := zD_iff.mp hD1
  rw [List.map_append, List.nodup_append] at hd1
  obtain ⟨ha, hb, hc⟩ := hd1
  have apart : ∀ x ∈ Xr, x.1 < H.size ∧ ¬ va_A Xc H.size x.1 := by
    intro x hx
    have hl := (zP_iff.mp hP x (List.mem_append_right _ hx)).lt
    refine ⟨hl, fun h => ?_⟩
    rcases h with ⟨k, e, h⟩ | h
    · exact hc x.1 (List.mem_map.mpr ⟨(x.1, e), List.mem_of_getElem? h, rfl⟩) x.1 (List.mem_map.mpr ⟨x, hx, rfl⟩) rfl
    · omega
  refine ⟨zP_iff.mpr (fun x hx => ?_), zD_iff.mpr ⟨?_, fun x hx => ?_⟩⟩
  · rcases List.mem_append.mp hx with h | h
    · exact zP_iff.mp hP1 x h
    · exact (zP_iff.mp hP x (List.mem_append_right _ h)).kept (hk x.1 (apart x h).1 (apart x h).2)
  · rw [List.map_append, List.nodup_append]
    refine ⟨he1, hb, fun a h1 b h2 hab => ?_⟩
    obtain ⟨x, hx, rfl⟩ := List.mem_map.mp h1
    obtain ⟨y, hy, rfl⟩ := List.mem_map.mp h2
    exact (apart y hy).2 (hab ▸ he2 x hx)
  · rcases List.mem_append.mp hx with h | h
    · exact hF x.1 (he2 x h)
    · exact hd2 x (List.mem_append_right _ h)
-- a block's value: its numbers, and its arrays
abbrev zCV : Type := (Nat → Int32) × (Nat → Nat → Int32)
def zS (v : zCV) (k : Nat) (x : Int32) : zCV := (upd v.1 k x, v.2)
def zA (v : zCV) (j : Nat) (f : Nat → Int32) : zCV := (v.1, fun i => if i = j then f else v.2 i)
abbrev zG : Type := va_G × ClassId × ClassId × ClassId × ClassId
def zTy (g : zG) : List (ClassId × FieldType) := [(g.2.1, .int), (g.2.2.1, .boolean), (g.2.2.2.1, .char), (g.2.2.2.2, .object RX0)]
-- the links between nest mates
def zNl : List Cond := [.methodLinkNest RX5 9 yX0_init RX5, .methodLinkNest RX0 17 yX1_init RX5, .methodLinkNest RX0 24 yX4_init RX5, .methodLinkNest RX5 21 yX2_init RX5, .methodLinkNest RX2 9 yX0_init RX5, .methodLinkNest RX5 28 yX3_init RX5, .methodLinkNest RX3 28 yX5_isPlace RX5, .methodLinkNest RX3 32 yX5_isRow RX5]
def zN (U : State) : Prop := ∀ w ∈ zNl, va_Nw w U
theorem zN.warm {s U : State} (hW : s.WarmedH U.vm) (h : zN s) : zN U := by
  intro w hw
  have h1 := h w hw
  simp only [zNl, List.mem_cons, List.not_mem_nil, or_false] at hw
  rcases hw with rfl | rfl | rfl | rfl | rfl | rfl | rfl | rfl <;> exact va_Nw.warmM hW h1
theorem zN.same {u U : State} (hv : u.vm = U.vm) (h : zN u) : zN U := by
  intro w hw
  have h1 := h w hw
  simp only [zNl, List.mem_cons, List.not_mem_nil, or_false] at hw
  rcases hw with rfl | rfl | rfl | rfl | rfl | rfl | rfl | rfl <;> exact va_Nw.same rfl hv h1
-- a contract's start and end
def zPc (g : zG) (X : va_W) (av : List Value) (sz : Nat) : Array Value → State → Prop := va_Pc av (fun U => U.heap.size = sz ∧ va_P g.1 vwCl X U.heap ∧ va_K g.1 vwCl (zTy g) U ∧ va_D (fun _ => True) X ∧ zN U)
theorem zPc_blind {g : zG} {X : va_W} {av : List Value} {sz : Nat} : FrameBlind (zPc g X av sz) := by
  intro a U f mk h
  obtain ⟨q0, q1, qP, qK, qD, qN⟩ := h
  exact ⟨q0, q1, qP, va_K.moved (u := U) (U := U.calling f mk a) (Vm.Alike.refl U.vm) qK, qD, zN.same (u := U) (U := U.calling f mk a) rfl qN⟩
def zEnd (g : zG) (X X' : va_W) (sz : Nat) (t : State) : Prop := va_P g.1 vwCl X' t.heap ∧ va_K g.1 vwCl (zTy g) t ∧ va_D (va_A X sz) X'
def zQi (g : zG) (X : va_W) (r : Int32) (X' : va_W) (sz : Nat) : Array Value → State → Outcome → State → Prop := va_Qi (fun (r' : Int32) (_ : Unit) => r' = r) (fun _ t => zEnd g X X' sz t) (va_A X sz)
def zQv (g : zG) (X : va_W) (X' : va_W) (sz : Nat) : Array Value → State → Outcome → State → Prop := va_Qv (fun (_ : Unit) => True) (fun _ t => zEnd g X X' sz t) (va_A X sz)
def ZI (l : Launch) (y : MethodName) (wsd : List Cond) (rm : Room) (g : zG) (X : va_W) (av : List Value) (r : Int32) (X' : va_W) : Prop := ∀ sz : Nat, Met l y wsd rm (zPc g X av sz) (zQi g X r X' sz) 0 0 (va_A X sz)
def ZV (l : Launch) (y : MethodName) (wsd : List Cond) (rm : Room) (g : zG) (X : va_W) (av : List Value) (X' : va_W) : Prop := ∀ sz : Nat, Met l y wsd rm (zPc g X av sz) (zQv g X X' sz) 0 0 (va_A X sz)
set_option maxHeartbeats 4000000 in
theorem zopenI {l : Launch} {y : MethodName} {wsd ws' : List Cond} {rm : Room} {g : zG} {X : va_W} {av : List Value} {r : Int32} {X' : va_W} {cc : ByteArray} {maxL : Nat} {ret : FieldType} (hy : plainFor y = true) (hw : wsd = Cond.code y cc maxL (some ret) :: ws') (hlen : (lg_sl av).length ≤ maxL)
    (body : ∀ (p : Program) (e : Env) (s : State) (m : MethodId) (below : List Frame) (meth : Method) (c : Code) (A : Nat → Prop) (Q : State → Prop) (ls : Array Slot), p.tables.exec = Jvm.exec → c.code = cc → c.maxLocals = maxL → s.vm.findClass y.cls = some m.cls → (∀ w ∈ wsd, w.before av.toArray s = true) → va_P g.1 vwCl X s.heap → va_K g.1 vwCl (zTy g) s → va_D A X → (∀ q : Nat, s.heap.size ≤ q → A q) → zN s → lv_has ls maxL (lv_args 0 av) →
      (∀ (rv : Int32) (Xn : va_W) (H : Heap) (locs : List Loc) (ls : Array Slot) (pc : Nat), decode cc pc = .ok (.ireturn, 1) → rv = r → narrow ret (.int rv) = .int rv → Xn = X' → va_P g.1 vwCl Xn H → va_D A Xn → va_S A s.heap H locs → W p l e rm s m av.toArray below meth c H locs 0 0 Q (F0 m pc ls [.int rv])) →
      W p l e rm s m av.toArray below meth c s.heap [] 0 0 Q (F0 m 0 ls [])) : ZI l y wsd rm g X av r X' := by
  intro sz
  refine va_MetF (cc := cc) (maxL := maxL) (ret := some ret) hy hw ?_
  intro p e s m args below meth c s₁ B hml hv
  obtain ⟨rfl, hsz, hP, hK, hD0, hN⟩ := hv
  subst hsz
  have hts := atoms_spec (ws := wsd) B.pre
  have hown : s.vm.findClass y.cls = some m.cls := findClass_of_methodNamed B.named
  have hlocks := B.notSynchronized
  have hl := lv_entry av hlen
  rw [lg_entry_eq]
  exact body p e s m below meth c (va_A X s.heap.size) _ _ B.exec B.bytes hml hown hts hP hK hD0.self (fun q h => Or.inr h) hN hl
    (fun rv Xn H locs ls pc hd e1 hn e2 hP1 hD1 hS => W.zret (v := rv) (ty := ret) B.exec B.bytes B.returns hn (fun t ht hW => ⟨⟨rv, (), rfl, e1, by rw [ht, ← e2]; exact hP1, va_K.moved hW.alike hK, by rw [← e2]; exact hD1⟩, hS.F ht⟩) hS.2.2 hd)
set_option maxHeartbeats 4000000 in
theorem zopenV {l : Launch} {y : MethodName} {wsd ws' : List Cond} {rm : Room} {g : zG} {X : va_W} {av : List Value} {X' : va_W} {cc : ByteArray} {maxL : Nat} (hy : plainFor y = true) (hw : wsd = Cond.code y cc maxL none :: ws') (hlen : (lg_sl av).length ≤ maxL)
    (body : ∀ (p : Program) (e : Env) (s : State) (m : MethodId) (below : List Frame) (meth : Method) (c : Code) (A : Nat → Prop) (Q : State → Prop) (ls : Array Slot), p.tables.exec = Jvm.exec → c.code = cc → c.maxLocals = maxL → s.vm.findClass y.cls = some m.cls → (∀ w ∈ wsd, w.before av.toArray s = true) → va_P g.1 vwCl X s.heap → va_K g.1 vwCl (zTy g) s → va_D A X → (∀ q : Nat, s.heap.size ≤ q → A q) → zN s → lv_has ls maxL (lv_args 0 av) →
      (∀ (Xn : va_W) (H : Heap) (locs : List Loc) (ls : Array Slot) (pc : Nat), decode cc pc = .ok (.return_, 1) → Xn = X' → va_P g.1 vwCl Xn H → va_D A Xn → va_S A s.heap H locs → W p l e rm s m av.toArray below meth c H locs 0 0 Q (F0 m pc ls [])) →
      W p l e rm s m av.toArray below meth c s.heap [] 0 0 Q (F0 m 0 ls [])) : ZV l y wsd rm g X av X' := by
  intro sz
  refine va_MetF (cc := cc) (maxL := maxL) (ret := none) hy hw ?_
  intro p e s m args below meth c s₁ B hml hv
  obtain ⟨rfl, hsz, hP, hK, hD0, hN⟩ := hv
  subst hsz
  have hts := atoms_spec (ws := wsd) B.pre
  have hown : s.vm.findClass y.cls = some m.cls := findClass_of_methodNamed B.named
  have hlocks := B.notSynchronized
  have hl := lv_entry av hlen
  rw [lg_entry_eq]
  exact body p e s m below meth c (va_A X s.heap.size) _ _ B.exec B.bytes hml hown hts hP hK hD0.self (fun q h => Or.inr h) hN hl
    (fun Xn H locs ls pc hd e2 hP1 hD1 hS => W.vret B.exec B.bytes B.returns (fun t ht hW => ⟨⟨(), rfl, trivial, by rw [ht, ← e2]; exact hP1, va_K.moved hW.alike hK, by rw [← e2]; exact hD1⟩, hS.F ht⟩) hS.2.2 hd)
section ZC
variable {p : Program} {l : Launch} {e : Env} {R : Room} {s : State} {m : MethodId} {args : Array Value} {below : List Frame} {meth : Method} {c : Code} {H : Heap} {locs : List Loc} {cells slots : Nat} {Q : State → Prop}
variable {pc : Nat} {ls : Array Slot} {rest st : List Value} {A : Nat → Prop} {H0 : Heap} {cc bytes : ByteArray} {nL maxL n index : Nat} {own C host : String} {y : MethodName} {ret : Option FieldType} {wsd ws' Ts : List Cond} {rm : Room} {g : zG} {X Xc Xr Xc' Xn : va_W} {b : Nat} {As : List Value} {r : Int32} {T : u_T} {N ci q0 : Nat} {fs : List Value}
theorem zfree (hD : va_D A Xc) (hS : va_S A H0 H locs) (hA : ∀ q : Nat, H0.size ≤ q → A q) : ∀ q : Nat, va_A Xc H.size q → A q := by
  intro q h
  rcases h with ⟨k, e, h⟩ | h
  · exact (zD_iff.mp hD).2 (q, e) (List.mem_of_getElem? h)
  · exact hA q (Nat.le_trans hS.1 h)
set_option maxHeartbeats 4000000 in
theorem zcVi (hx : p.tables.exec = Jvm.exec) (hb : c.code = cc) (hml : c.maxLocals = nL) (hown : s.vm.findClass own = some m.cls) (hts : ∀ w ∈ Ts, w.before args s = true) (hN : zN s)
    (hM : ZI l y wsd rm g Xc (.ref b :: As) r Xc') (hG : GoodIn Ts (wsV own index C y wsd)) (hw : wsd = Cond.code y bytes maxL ret :: ws') (hd : y.cls = C ∧ y.cls ≠ "java/lang/invoke/MethodHandle" ∧ y.cls ≠ "java/lang/invoke/VarHandle" ∧ (parseMethodDescriptor y.desc).map (fun d => d.parameters.length) = some n) (hrc : rm.cells = 0 ∧ rm.slots = 0) (hR : rm.frames + 1 ≤ R.frames ∧ 8 + (maxL + 11) + rm.locals ≤ R.locals)
    (hK : va_K g.1 vwCl (zTy g) s) (hP : va_P g.1 vwCl X H) (hD : va_D A X) (hS : va_S A H0 H locs) (hA : ∀ q : Nat, H0.size ≤ q → A q) (hX : X.Perm (Xc ++ Xr)) (hcl : vwCl[ci]? = some (C, T, N)) (he : Xc[q0]? = some (b, .inr (ci, fs)))
    (hn : As.length = n) (hsize : ls.size = nL) (hst : st = As.reverse ++ .ref b :: rest) (hroom : (rest.map fun v => v.category).sum ≤ 8) (hdg : decode cc pc = .ok (.invokevirtual index, 3)) (hf : cells ≤ R.cells ∧ slots ≤ R.slots) (hXn : (Xc' ++ Xr).Perm Xn)
    (kk : ∀ (H1 : Heap) (locs1 : List Loc), va_P g.1 vwCl Xn H1 → va_D A Xn → va_S A H0 H1 locs1 → W p l e R s m args below meth c H1 locs1 cells slots Q (F0 m (pc + 3) ls (.int r :: rest))) : W p l e R s m args below meth c H locs cells slots Q (F0 m pc ls st) := by
  subst hst
  have hPc := zP_perm hP hX
  have hDc := zD_perm hD hX
  have hPs := zP_left hPc
  have hDs := zD_left hDc
  have hFc := zfree hDs hS hA
  refine va_calli (va_runV ⟨hx, hb, hml, hown, hts⟩ (hM H.size) (cwV n hts hG hw hrc.1 hrc.2 hd hR) ⟨zPc_blind, va_recv hK hPs hcl he, fun U hU hWm => ⟨rfl, by rw [hU], by rw [hU]; exact hPs, va_K.moved hWm.alike hK, hDs.weaken (fun _ _ _ _ => trivial), zN.warm hWm hN⟩⟩ rfl hn hsize rfl (lv_room hroom) hdg hf) hS (fun q _ h => hFc q h) hFc (fun r1 u t H1 locs1 ht hvm hw1 hB hz hk1 hS1 => ?_)
  subst hw1
  obtain ⟨hP1, hK1, hD1⟩ := hB
  rw [ht] at hP1
  obtain ⟨h1, h2⟩ := zjoin hPc hDc hk1 hFc hP1 hD1
  exact kk H1 locs1 (zP_perm h1 hXn) (zD_perm h2 hXn) hS1
set_option maxHeartbeats 4000000 in
theorem zcVv (hx : p.tables.exec = Jvm.exec) (hb : c.code = cc) (hml : c.maxLocals = nL) (hown : s.vm.findClass own = some m.cls) (hts : ∀ w ∈ Ts, w.before args s = true) (hN : zN s)
    (hM : ZV l y wsd rm g Xc (.ref b :: As) Xc') (hG : GoodIn Ts (wsV own index C y wsd)) (hw : wsd = Cond.code y bytes maxL ret :: ws') (hd : y.cls = C ∧ y.cls ≠ "java/lang/invoke/MethodHandle" ∧ y.cls ≠ "java/lang/invoke/VarHandle" ∧ (parseMethodDescriptor y.desc).map (fun d => d.parameters.length) = some n) (hrc : rm.cells = 0 ∧ rm.slots = 0) (hR : rm.frames + 1 ≤ R.frames ∧ 8 + (maxL + 11) + rm.locals ≤ R.locals)
    (hK : va_K g.1 vwCl (zTy g) s) (hP : va_P g.1 vwCl X H) (hD : va_D A X) (hS : va_S A H0 H locs) (hA : ∀ q : Nat, H0.size ≤ q → A q) (hX : X.Perm (Xc ++ Xr)) (hcl : vwCl[ci]? = some (C, T, N)) (he : Xc[q0]? = some (b, .inr (ci, fs)))
    (hn : As.length = n) (hsize : ls.size = nL) (hst : st = As.reverse ++ .ref b :: rest) (hroom : (rest.map fun v => v.category).sum ≤ 8) (hdg : decode cc pc = .ok (.invokevirtual index, 3)) (hf : cells ≤ R.cells ∧ slots ≤ R.slots) (hXn : (Xc' ++ Xr).Perm Xn)
    (kk : ∀ (H1 : Heap) (locs1 : List Loc), va_P g.1 vwCl Xn H1 → va_D A Xn → va_S A H0 H1 locs1 → W p l e R s m args below meth c H1 locs1 cells slots Q (F0 m (pc + 3) ls rest)) : W p l e R s m args below meth c H locs cells slots Q (F0 m pc ls st) := by
  subst hst
  have hPc := zP_perm hP hX
  have hDc := zD_perm hD hX
  have hPs := zP_left hPc
  have hDs := zD_left hDc
  have hFc := zfree hDs hS hA
  refine va_callv (va_runV ⟨hx, hb, hml, hown, hts⟩ (hM H.size) (cwV n hts hG hw hrc.1 hrc.2 hd hR) ⟨zPc_blind, va_recv hK hPs hcl he, fun U hU hWm => ⟨rfl, by rw [hU], by rw [hU]; exact hPs, va_K.moved hWm.alike hK, hDs.weaken (fun _ _ _ _ => trivial), zN.warm hWm hN⟩⟩ rfl hn hsize rfl (lv_room hroom) hdg hf) hS (fun q _ h => hFc q h) hFc (fun u t H1 locs1 ht hvm hw1 hB hz hk1 hS1 => ?_)
  obtain ⟨hP1, hK1, hD1⟩ := hB
  rw [ht] at hP1
  obtain ⟨h1, h2⟩ := zjoin hPc hDc hk1 hFc hP1 hD1
  exact kk H1 locs1 (zP_perm h1 hXn) (zD_perm h2 hXn) hS1
set_option maxHeartbeats 4000000 in
/-- a static method that reads and writes nothing -/
theorem zcSi (hx : p.tables.exec = Jvm.exec) (hb : c.code = cc) (hml : c.maxLocals = nL) (hown : s.vm.findClass own = some m.cls) (hts : ∀ w ∈ Ts, w.before args s = true) (hN : zN s)
    (hM : ZI l y wsd rm g [] As r []) (hG : GoodIn Ts (va_wsS own index y wsd)) (hw : wsd = Cond.code y bytes maxL ret :: ws') (hd : y.cls ≠ "java/lang/invoke/MethodHandle" ∧ y.cls ≠ "java/lang/invoke/VarHandle" ∧ (parseMethodDescriptor y.desc).map (fun d => d.parameters.length) = some n) (hrc : rm.cells = 0 ∧ rm.slots = 0) (hR : rm.frames + 1 ≤ R.frames ∧ 8 + (maxL + 11) + rm.locals ≤ R.locals)
    (hK : va_K g.1 vwCl (zTy g) s) (hP : va_P g.1 vwCl X H) (hD : va_D A X) (hS : va_S A H0 H locs) (hA : ∀ q : Nat, H0.size ≤ q → A q)
    (hn : As.length = n) (hsize : ls.size = nL) (hst : st = As.reverse ++ rest) (hroom : (rest.map fun v => v.category).sum ≤ 8) (hdg : decode cc pc = .ok (.invokestatic index, 3)) (hf : cells ≤ R.cells ∧ slots ≤ R.slots)
    (kk : ∀ (H1 : Heap) (locs1 : List Loc), va_P g.1 vwCl X H1 → va_D A X → va_S A H0 H1 locs1 → W p l e R s m args below meth c H1 locs1 cells slots Q (F0 m (pc + 3) ls (.int r :: rest))) : W p l e R s m args below meth c H locs cells slots Q (F0 m pc ls st) := by
  subst hst
  have hPc : va_P g.1 vwCl ([] ++ X) H := hP
  have hDc : va_D A ([] ++ X) := hD
  have hPs := zP_left hPc
  have hDs := zD_left hDc
  have hFc := zfree hDs hS hA
  refine va_calli (va_runS ⟨hx, hb, hml, hown, hts⟩ (hM H.size) (va_cwS n hts hG hw hrc.1 hrc.2 hd hR) ⟨zPc_blind, fun U hU hWm => ⟨rfl, by rw [hU], by rw [hU]; exact hPs, va_K.moved hWm.alike hK, hDs.weaken (fun _ _ _ _ => trivial), zN.warm hWm hN⟩⟩ rfl hn hsize rfl (lv_room hroom) hdg hf) hS (fun q _ h => hFc q h) hFc (fun r1 u t H1 locs1 ht hvm hw1 hB hz hk1 hS1 => ?_)
  subst hw1
  obtain ⟨hP1, hK1, hD1⟩ := hB
  rw [ht] at hP1
  obtain ⟨h1, h2⟩ := zjoin hPc hDc hk1 hFc hP1 hD1
  exact kk H1 locs1 h1 h2 hS1
set_option maxHeartbeats 4000000 in
/-- a nest mate's static method that reads and writes nothing -/
theorem zcSNi (hx : p.tables.exec = Jvm.exec) (hb : c.code = cc) (hml : c.maxLocals = nL) (hown : s.vm.findClass own = some m.cls) (hts : ∀ w ∈ Ts, w.before args s = true) (hN : zN s)
    (hM : ZI l y wsd rm g [] As r []) (hG : GoodIn Ts wsd) (hw : wsd = Cond.code y bytes maxL ret :: ws') (hlk : Cond.methodLinkNest own index y host ∈ zNl) (hini : (Cond.initialized y.cls).before args s = true) (hstat : (Cond.static y).before args s = true) (hd : y.cls ≠ "java/lang/invoke/MethodHandle" ∧ y.cls ≠ "java/lang/invoke/VarHandle" ∧ (parseMethodDescriptor y.desc).map (fun d => d.parameters.length) = some n) (hrc : rm.cells = 0 ∧ rm.slots = 0) (hR : rm.frames + 1 ≤ R.frames ∧ 8 + (maxL + 11) + rm.locals ≤ R.locals)
    (hK : va_K g.1 vwCl (zTy g) s) (hP : va_P g.1 vwCl X H) (hD : va_D A X) (hS : va_S A H0 H locs) (hA : ∀ q : Nat, H0.size ≤ q → A q)
    (hn : As.length = n) (hsize : ls.size = nL) (hst : st = As.reverse ++ rest) (hroom : (rest.map fun v => v.category).sum ≤ 8) (hdg : decode cc pc = .ok (.invokestatic index, 3)) (hf : cells ≤ R.cells ∧ slots ≤ R.slots)
    (kk : ∀ (H1 : Heap) (locs1 : List Loc), va_P g.1 vwCl X H1 → va_D A X → va_S A H0 H1 locs1 → W p l e R s m args below meth c H1 locs1 cells slots Q (F0 m (pc + 3) ls (.int r :: rest))) : W p l e R s m args below meth c H locs cells slots Q (F0 m pc ls st) := by
  subst hst
  have hPc : va_P g.1 vwCl ([] ++ X) H := hP
  have hDc : va_D A ([] ++ X) := hD
  have hPs := zP_left hPc
  have hDs := zD_left hDc
  have hFc := zfree hDs hS hA
  refine va_calli (va_runSN ⟨hx, hb, hml, hown, hts⟩ (hM H.size) ⟨va_cnB n hts hG hw hrc.1 hrc.2 (hN _ hlk) hini hd hR, hstat, trivial⟩ ⟨zPc_blind, fun U hU hWm => ⟨rfl, by rw [hU], by rw [hU]; exact hPs, va_K.moved hWm.alike hK, hDs.weaken (fun _ _ _ _ => trivial), zN.warm hWm hN⟩⟩ rfl hn hsize rfl (lv_room hroom) hdg hf) hS (fun q _ h => hFc q h) hFc (fun r1 u t H1 locs1 ht hvm hw1 hB hz hk1 hS1 => ?_)
  subst hw1
  obtain ⟨hP1, hK1, hD1⟩ := hB
  rw [ht] at hP1
  obtain ⟨h1, h2⟩ := zjoin hPc hDc hk1 hFc hP1 hD1
  exact kk H1 locs1 h1 h2 hS1
end ZC
-- the blocks
def ck (g : zG) (q : Nat → Nat) (v : zCV) : va_W := [(q 0, .inr (0, [.ref (q 1), .ref (q 2), .ref (q 5), .int (v.1 5), .int (v.1 6), .int (v.1 7), .int (v.1 8), .int (v.1 9), .int (v.1 10), .int (v.1 11), .int (v.1 12), .int (v.1 13), .int (v.1 14)])),
  (q 1, .inl (g.2.1, 4, .inl (v.2 0))), (q 2, .inr (1, [.ref (q 3), .ref (q 4), .int (v.1 4), .int (v.1 15)])), (q 3, .inl (g.2.1, 16, .inl (v.2 1))), (q 4, .inl (g.2.1, 96, .inl (v.2 2))),
  (q 5, .inr (4, [.ref (q 6), .ref (q 7), .ref (q 8), .ref (q 9)])), (q 6, .inl (g.2.1, 6, .inl (v.2 3))), (q 7, .inl (g.2.1, 6, .inl (v.2 4))), (q 8, .inl (g.2.1, 6, .inl (v.2 5))), (q 9, .inl (g.2.1, 6, .inl (v.2 6)))]
def mo (g : zG) (q : Nat → Nat) (v : zCV) : va_W := [(q 0, .inr (6, [.ref (q 1), .ref (q 2), .ref (q 3), .int (v.1 0), .ref (q 4), .ref (q 5), .ref (q 6), .int (v.1 1), .int (v.1 2), .ref (q 7), .ref (q 8), .int (v.1 3)])),
  (q 1, .inl (g.2.1, 136, .inl (v.2 0))), (q 2, .inl (g.2.1, 136, .inl (v.2 1))), (q 3, .inl (g.2.1, 816, .inl (v.2 2))), (q 4, .inl (g.2.1, 272, .inl (v.2 3))), (q 5, .inl (g.2.1, 2, .inl (v.2 4))), (q 6, .inl (g.2.1, 60, .inl (v.2 5))), (q 7, .inl (g.2.1, 31, .inl (v.2 6))), (q 8, .inl (g.2.1, 31, .inl (v.2 7)))]
/-- the clerk's own cell -/
def po (a qc qt qh qp qs qz : Nat) : va_W := [(a, .inr (5, [.ref qc, .ref qt, .ref qh, .ref qp, .ref qs, .ref qz]))]
/-- the history's two cells: numbers next, kept -/
def hi (g : zG) (q : Nat → Nat) (f : Nat → Option Nat) (v : zCV) : va_W := [(q 0, .inr (2, [.ref (q 1), .int (v.1 0), .int (v.1 1)])), (q 1, .inl (g.2.2.2.2, 6, .inr (.inr (.inr (.inr f)))))]
def pd (g : zG) (q : Nat → Nat) (v : zCV) : va_W := [(q 0, .inr (3, [.ref (q 1), .int (v.1 0)])), (q 1, .inl (g.2.2.2.1, 60, .inl (v.2 0)))]
/-- the slots' row, and which are saved -/
def sl (g : zG) (q : Nat → Nat) (f : Nat → Option Nat) (v : zCV) : va_W := [(q 0, .inl (g.2.2.2.2, 2, .inr (.inr (.inr (.inr f))))), (q 1, .inl (g.2.2.1, 2, .inl (v.2 0)))]
end
section
/-! Rows with the index told as a number, and bounds. -/
theorem zlit (x : Int32) (n : Nat) (h : 0 ≤ x.toInt ∧ x.toInt < (n : Int)) : vp_in x n := vp_in_iff.mpr h
theorem zin_mono {x : Int32} {k n : Nat} (h : vp_in x k) (hk : k ≤ n) : vp_in x n := by
  obtain ⟨h1, h2⟩ := vp_in_iff.mp h
  exact vp_in_iff.mpr ⟨h1, by omega⟩
theorem zin_add {c k n : Nat} {C x : Int32} (hC : C = nI c) (h : vp_in x k) (hc : c + k ≤ n) (hn : n < 2147483648) : vp_in (C + x) n := by
  obtain ⟨j, hj, rfl⟩ := vp_in_of h (by omega)
  subst hC
  rw [nI_add]
  exact vp_in_nI (by omega) (by omega)
theorem zrng (x : Int32) : -2147483648 ≤ x.toInt ∧ x.toInt < 2147483648 := ⟨Int32.le_toInt x, Int32.toInt_lt x⟩
theorem zclamp (x : Int32) : x.toNatClampNeg = x.toInt.toNat := rfl
theorem zge0 {b : Int32} {i : Nat} (h : i = b.toNatClampNeg) : b ≤ nI i := by
  have hr := zrng b
  have h1 := zclamp b
  rw [Int32.le_iff_toInt_le, nI_toInt (by omega)]
  omega
theorem zge1 {b : Int32} {i : Nat} (h : i < b.toNatClampNeg) : ¬ b ≤ nI i := by
  have hr := zrng b
  have h1 := zclamp b
  rw [Int32.le_iff_toInt_le, nI_toInt (by omega)]
  omega
theorem zpn (X : va_W) : X.Perm (X ++ []) := by rw [List.append_nil]
theorem zpn' (X : va_W) : (X ++ []).Perm X := by rw [List.append_nil]
section ZR
variable {p : Program} {l : Launch} {e : Env} {R : Room} {s : State} {m : MethodId} {args : Array Value} {below : List Frame} {meth : Method} {c : Code} {H : Heap} {locs : List Loc} {cells slots : Nat} {Q : State → Prop}
variable {cc : ByteArray} {pc : Nat} {ls : Array Slot} {rest : List Value} {D : va_G} {cl : List vw_C} {A : Nat → Prop} {a : Nat} {tys : List (ClassId × FieldType)} {ws : va_W} {H0 : Heap} {cA : ClassId} {n k : Nat} {f : Nat → Int32} {i x : Int32}
theorem z_iald (hexec : p.tables.exec = Jvm.exec) (hb : c.code = cc) (hK : va_K D cl tys s) (hP : va_P D cl ws H) (q0 t0 : Nat) (ha : ws[q0]? = some (a, .inl (cA, n, .inl f))) (ht : tys[t0]? = some (cA, .int)) (hin : vp_in i n) (hk : i.toNatClampNeg = k) (hdg : decode cc pc = .ok (.iaload, 1))
    (kk : W p l e R s m args below meth c H locs cells slots Q (F0 m (pc + 1) ls (.int (f k) :: rest))) : W p l e R s m args below meth c H locs cells slots Q (F0 m pc ls (.int i :: .ref a :: rest)) := by
  subst hk
  exact va_iald hexec hb hK hP q0 t0 ha ht hin hdg kk
theorem z_cald (hexec : p.tables.exec = Jvm.exec) (hb : c.code = cc) (hK : va_K D cl tys s) (hP : va_P D cl ws H) (q0 t0 : Nat) (ha : ws[q0]? = some (a, .inl (cA, n, .inl f))) (ht : tys[t0]? = some (cA, .char)) (hin : vp_in i n) (hk : i.toNatClampNeg = k) (hdg : decode cc pc = .ok (.caload, 1))
    (kk : W p l e R s m args below meth c H locs cells slots Q (F0 m (pc + 1) ls (.int (f k) :: rest))) : W p l e R s m args below meth c H locs cells slots Q (F0 m pc ls (.int i :: .ref a :: rest)) := by
  subst hk
  exact va_cald hexec hb hK hP q0 t0 ha ht hin hdg kk
theorem z_zald (hexec : p.tables.exec = Jvm.exec) (hb : c.code = cc) (hK : va_K D cl tys s) (hP : va_P D cl ws H) (q0 t0 : Nat) (ha : ws[q0]? = some (a, .inl (cA, n, .inl f))) (ht : tys[t0]? = some (cA, .boolean)) (hin : vp_in i n) (hk : i.toNatClampNeg = k) (hdg : decode cc pc = .ok (.baload, 1))
    (kk : W p l e R s m args below meth c H locs cells slots Q (F0 m (pc + 1) ls (.int (f k) :: rest))) : W p l e R s m args below meth c H locs cells slots Q (F0 m pc ls (.int i :: .ref a :: rest)) := by
  subst hk
  exact va_zald hexec hb hK hP q0 t0 ha ht hin hdg kk
theorem z_iast (hexec : p.tables.exec = Jvm.exec) (hb : c.code = cc) (hK : va_K D cl tys s) (hP : va_P D cl ws H) (hD : va_D A ws) (hS : va_S A H0 H locs) (q0 t0 : Nat) (ha : ws[q0]? = some (a, .inl (cA, n, .inl f))) (ht : tys[t0]? = some (cA, .int)) (hin : vp_in i n) (hk : i.toNatClampNeg = k) (hdg : decode cc pc = .ok (.iastore, 1))
    (kk : ∀ (H1 : Heap) (locs1 : List Loc), va_P D cl (ws.set q0 (a, .inl (cA, n, .inl (upd f k x)))) H1 → va_D A (ws.set q0 (a, .inl (cA, n, .inl (upd f k x)))) → va_S A H0 H1 locs1 → W p l e R s m args below meth c H1 locs1 cells slots Q (F0 m (pc + 1) ls rest)) : W p l e R s m args below meth c H locs cells slots Q (F0 m pc ls (.int x :: .int i :: .ref a :: rest)) := by
  subst hk
  exact va_iast hexec hb hK hP hD hS q0 t0 ha ht hin hdg kk
theorem z_cast (hexec : p.tables.exec = Jvm.exec) (hb : c.code = cc) (hK : va_K D cl tys s) (hP : va_P D cl ws H) (hD : va_D A ws) (hS : va_S A H0 H locs) (q0 t0 : Nat) (ha : ws[q0]? = some (a, .inl (cA, n, .inl f))) (ht : tys[t0]? = some (cA, .char)) (hin : vp_in i n) (hk : i.toNatClampNeg = k) (hdg : decode cc pc = .ok (.castore, 1))
    (kk : ∀ (H1 : Heap) (locs1 : List Loc), va_P D cl (ws.set q0 (a, .inl (cA, n, .inl (upd f k (vp_nar .char x))))) H1 → va_D A (ws.set q0 (a, .inl (cA, n, .inl (upd f k (vp_nar .char x))))) → va_S A H0 H1 locs1 → W p l e R s m args below meth c H1 locs1 cells slots Q (F0 m (pc + 1) ls rest)) : W p l e R s m args below meth c H locs cells slots Q (F0 m pc ls (.int x :: .int i :: .ref a :: rest)) := by
  subst hk
  exact va_cast hexec hb hK hP hD hS q0 t0 ha ht hin hdg kk
theorem z_zast (hexec : p.tables.exec = Jvm.exec) (hb : c.code = cc) (hK : va_K D cl tys s) (hP : va_P D cl ws H) (hD : va_D A ws) (hS : va_S A H0 H locs) (q0 t0 : Nat) (ha : ws[q0]? = some (a, .inl (cA, n, .inl f))) (ht : tys[t0]? = some (cA, .boolean)) (hin : vp_in i n) (hk : i.toNatClampNeg = k) (hdg : decode cc pc = .ok (.bastore, 1))
    (kk : ∀ (H1 : Heap) (locs1 : List Loc), va_P D cl (ws.set q0 (a, .inl (cA, n, .inl (upd f k (vp_nar .boolean x))))) H1 → va_D A (ws.set q0 (a, .inl (cA, n, .inl (upd f k (vp_nar .boolean x))))) → va_S A H0 H1 locs1 → W p l e R s m args below meth c H1 locs1 cells slots Q (F0 m (pc + 1) ls rest)) : W p l e R s m args below meth c H locs cells slots Q (F0 m pc ls (.int x :: .int i :: .ref a :: rest)) := by
  subst hk
  exact va_zast hexec hb hK hP hD hS q0 t0 ha ht hin hdg kk
end ZR
-- a write in a block
theorem ck_S5 (g : zG) (q : Nat → Nat) (v : zCV) (x : Int32) : (ck g q v).set 0 (q 0, .inr (0, ([.ref (q 1), .ref (q 2), .ref (q 5), .int (v.1 5), .int (v.1 6), .int (v.1 7), .int (v.1 8), .int (v.1 9), .int (v.1 10), .int (v.1 11), .int (v.1 12), .int (v.1 13), .int (v.1 14)] : List Value).set 3 (.int x))) = ck g q (zS v 5 x) := rfl
theorem ck_S6 (g : zG) (q : Nat → Nat) (v : zCV) (x : Int32) : (ck g q v).set 0 (q 0, .inr (0, ([.ref (q 1), .ref (q 2), .ref (q 5), .int (v.1 5), .int (v.1 6), .int (v.1 7), .int (v.1 8), .int (v.1 9), .int (v.1 10), .int (v.1 11), .int (v.1 12), .int (v.1 13), .int (v.1 14)] : List Value).set 4 (.int x))) = ck g q (zS v 6 x) := rfl
theorem ck_S7 (g : zG) (q : Nat → Nat) (v : zCV) (x : Int32) : (ck g q v).set 0 (q 0, .inr (0, ([.ref (q 1), .ref (q 2), .ref (q 5), .int (v.1 5), .int (v.1 6), .int (v.1 7), .int (v.1 8), .int (v.1 9), .int (v.1 10), .int (v.1 11), .int (v.1 12), .int (v.1 13), .int (v.1 14)] : List Value).set 5 (.int x))) = ck g q (zS v 7 x) := rfl
theorem ck_S8 (g : zG) (q : Nat → Nat) (v : zCV) (x : Int32) : (ck g q v).set 0 (q 0, .inr (0, ([.ref (q 1), .ref (q 2), .ref (q 5), .int (v.1 5), .int (v.1 6), .int (v.1 7), .int (v.1 8), .int (v.1 9), .int (v.1 10), .int (v.1 11), .int (v.1 12), .int (v.1 13), .int (v.1 14)] : List Value).set 6 (.int x))) = ck g q (zS v 8 x) := rfl
theorem ck_S9 (g : zG) (q : Nat → Nat) (v : zCV) (x : Int32) : (ck g q v).set 0 (q 0, .inr (0, ([.ref (q 1), .ref (q 2), .ref (q 5), .int (v.1 5), .int (v.1 6), .int (v.1 7), .int (v.1 8), .int (v.1 9), .int (v.1 10), .int (v.1 11), .int (v.1 12), .int (v.1 13), .int (v.1 14)] : List Value).set 7 (.int x))) = ck g q (zS v 9 x) := rfl
theorem ck_S10 (g : zG) (q : Nat → Nat) (v : zCV) (x : Int32) : (ck g q v).set 0 (q 0, .inr (0, ([.ref (q 1), .ref (q 2), .ref (q 5), .int (v.1 5), .int (v.1 6), .int (v.1 7), .int (v.1 8), .int (v.1 9), .int (v.1 10), .int (v.1 11), .int (v.1 12), .int (v.1 13), .int (v.1 14)] : List Value).set 8 (.int x))) = ck g q (zS v 10 x) := rfl
theorem ck_S11 (g : zG) (q : Nat → Nat) (v : zCV) (x : Int32) : (ck g q v).set 0 (q 0, .inr (0, ([.ref (q 1), .ref (q 2), .ref (q 5), .int (v.1 5), .int (v.1 6), .int (v.1 7), .int (v.1 8), .int (v.1 9), .int (v.1 10), .int (v.1 11), .int (v.1 12), .int (v.1 13), .int (v.1 14)] : List Value).set 9 (.int x))) = ck g q (zS v 11 x) := rfl
theorem ck_S12 (g : zG) (q : Nat → Nat) (v : zCV) (x : Int32) : (ck g q v).set 0 (q 0, .inr (0, ([.ref (q 1), .ref (q 2), .ref (q 5), .int (v.1 5), .int (v.1 6), .int (v.1 7), .int (v.1 8), .int (v.1 9), .int (v.1 10), .int (v.1 11), .int (v.1 12), .int (v.1 13), .int (v.1 14)] : List Value).set 10 (.int x))) = ck g q (zS v 12 x) := rfl
theorem ck_S13 (g : zG) (q : Nat → Nat) (v : zCV) (x : Int32) : (ck g q v).set 0 (q 0, .inr (0, ([.ref (q 1), .ref (q 2), .ref (q 5), .int (v.1 5), .int (v.1 6), .int (v.1 7), .int (v.1 8), .int (v.1 9), .int (v.1 10), .int (v.1 11), .int (v.1 12), .int (v.1 13), .int (v.1 14)] : List Value).set 11 (.int x))) = ck g q (zS v 13 x) := rfl
theorem ck_S14 (g : zG) (q : Nat → Nat) (v : zCV) (x : Int32) : (ck g q v).set 0 (q 0, .inr (0, ([.ref (q 1), .ref (q 2), .ref (q 5), .int (v.1 5), .int (v.1 6), .int (v.1 7), .int (v.1 8), .int (v.1 9), .int (v.1 10), .int (v.1 11), .int (v.1 12), .int (v.1 13), .int (v.1 14)] : List Value).set 12 (.int x))) = ck g q (zS v 14 x) := rfl
theorem ck_A0 (g : zG) (q : Nat → Nat) (v : zCV) (f : Nat → Int32) : (ck g q v).set 1 (q 1, .inl (g.2.1, 4, .inl f)) = ck g q (zA v 0 f) := rfl
theorem ck_S4 (g : zG) (q : Nat → Nat) (v : zCV) (x : Int32) : (ck g q v).set 2 (q 2, .inr (1, ([.ref (q 3), .ref (q 4), .int (v.1 4), .int (v.1 15)] : List Value).set 2 (.int x))) = ck g q (zS v 4 x) := rfl
theorem ck_S15 (g : zG) (q : Nat → Nat) (v : zCV) (x : Int32) : (ck g q v).set 2 (q 2, .inr (1, ([.ref (q 3), .ref (q 4), .int (v.1 4), .int (v.1 15)] : List Value).set 3 (.int x))) = ck g q (zS v 15 x) := rfl
theorem ck_A1 (g : zG) (q : Nat → Nat) (v : zCV) (f : Nat → Int32) : (ck g q v).set 3 (q 3, .inl (g.2.1, 16, .inl f)) = ck g q (zA v 1 f) := rfl
theorem ck_A2 (g : zG) (q : Nat → Nat) (v : zCV) (f : Nat → Int32) : (ck g q v).set 4 (q 4, .inl (g.2.1, 96, .inl f)) = ck g q (zA v 2 f) := rfl
theorem ck_A3 (g : zG) (q : Nat → Nat) (v : zCV) (f : Nat → Int32) : (ck g q v).set 6 (q 6, .inl (g.2.1, 6, .inl f)) = ck g q (zA v 3 f) := rfl
theorem ck_A4 (g : zG) (q : Nat → Nat) (v : zCV) (f : Nat → Int32) : (ck g q v).set 7 (q 7, .inl (g.2.1, 6, .inl f)) = ck g q (zA v 4 f) := rfl
theorem ck_A5 (g : zG) (q : Nat → Nat) (v : zCV) (f : Nat → Int32) : (ck g q v).set 8 (q 8, .inl (g.2.1, 6, .inl f)) = ck g q (zA v 5 f) := rfl
theorem ck_A6 (g : zG) (q : Nat → Nat) (v : zCV) (f : Nat → Int32) : (ck g q v).set 9 (q 9, .inl (g.2.1, 6, .inl f)) = ck g q (zA v 6 f) := rfl
theorem mo_S0 (g : zG) (q : Nat → Nat) (v : zCV) (x : Int32) : (mo g q v).set 0 (q 0, .inr (6, ([.ref (q 1), .ref (q 2), .ref (q 3), .int (v.1 0), .ref (q 4), .ref (q 5), .ref (q 6), .int (v.1 1), .int (v.1 2), .ref (q 7), .ref (q 8), .int (v.1 3)] : List Value).set 3 (.int x))) = mo g q (zS v 0 x) := rfl
theorem mo_S1 (g : zG) (q : Nat → Nat) (v : zCV) (x : Int32) : (mo g q v).set 0 (q 0, .inr (6, ([.ref (q 1), .ref (q 2), .ref (q 3), .int (v.1 0), .ref (q 4), .ref (q 5), .ref (q 6), .int (v.1 1), .int (v.1 2), .ref (q 7), .ref (q 8), .int (v.1 3)] : List Value).set 7 (.int x))) = mo g q (zS v 1 x) := rfl
theorem mo_S2 (g : zG) (q : Nat → Nat) (v : zCV) (x : Int32) : (mo g q v).set 0 (q 0, .inr (6, ([.ref (q 1), .ref (q 2), .ref (q 3), .int (v.1 0), .ref (q 4), .ref (q 5), .ref (q 6), .int (v.1 1), .int (v.1 2), .ref (q 7), .ref (q 8), .int (v.1 3)] : List Value).set 8 (.int x))) = mo g q (zS v 2 x) := rfl
theorem mo_S3 (g : zG) (q : Nat → Nat) (v : zCV) (x : Int32) : (mo g q v).set 0 (q 0, .inr (6, ([.ref (q 1), .ref (q 2), .ref (q 3), .int (v.1 0), .ref (q 4), .ref (q 5), .ref (q 6), .int (v.1 1), .int (v.1 2), .ref (q 7), .ref (q 8), .int (v.1 3)] : List Value).set 11 (.int x))) = mo g q (zS v 3 x) := rfl
theorem mo_A0 (g : zG) (q : Nat → Nat) (v : zCV) (f : Nat → Int32) : (mo g q v).set 1 (q 1, .inl (g.2.1, 136, .inl f)) = mo g q (zA v 0 f) := rfl
theorem mo_A1 (g : zG) (q : Nat → Nat) (v : zCV) (f : Nat → Int32) : (mo g q v).set 2 (q 2, .inl (g.2.1, 136, .inl f)) = mo g q (zA v 1 f) := rfl
theorem mo_A2 (g : zG) (q : Nat → Nat) (v : zCV) (f : Nat → Int32) : (mo g q v).set 3 (q 3, .inl (g.2.1, 816, .inl f)) = mo g q (zA v 2 f) := rfl
theorem mo_A3 (g : zG) (q : Nat → Nat) (v : zCV) (f : Nat → Int32) : (mo g q v).set 4 (q 4, .inl (g.2.1, 272, .inl f)) = mo g q (zA v 3 f) := rfl
theorem mo_A4 (g : zG) (q : Nat → Nat) (v : zCV) (f : Nat → Int32) : (mo g q v).set 5 (q 5, .inl (g.2.1, 2, .inl f)) = mo g q (zA v 4 f) := rfl
theorem mo_A5 (g : zG) (q : Nat → Nat) (v : zCV) (f : Nat → Int32) : (mo g q v).set 6 (q 6, .inl (g.2.1, 60, .inl f)) = mo g q (zA v 5 f) := rfl
theorem mo_A6 (g : zG) (q : Nat → Nat) (v : zCV) (f : Nat → Int32) : (mo g q v).set 7 (q 7, .inl (g.2.1, 31, .inl f)) = mo g q (zA v 6 f) := rfl
theorem mo_A7 (g : zG) (q : Nat → Nat) (v : zCV) (f : Nat → Int32) : (mo g q v).set 8 (q 8, .inl (g.2.1, 31, .inl f)) = mo g q (zA v 7 f) := rfl
theorem zsw4 {x : Int32} (h0 : ¬ x.toInt = 0) (h1 : ¬ x.toInt = 1) (h2 : ¬ x.toInt = 2) (h3 : ¬ x.toInt = 3) : x.toInt < 0 ∨ 3 < x.toInt := by omega
theorem zsw3 {x : Int32} (h0 : ¬ x.toInt = 0) (h1 : ¬ x.toInt = 1) (h2 : ¬ x.toInt = 2) : x.toInt < 0 ∨ 2 < x.toInt := by omega
theorem zsw5 {x : Int32} {a : Int} (h0 : ¬ x.toInt = a) (h1 : ¬ x.toInt = a + 1) (h2 : ¬ x.toInt = a + 2) (h3 : ¬ x.toInt = a + 3) (h4 : ¬ x.toInt = a + 4) : x.toInt < a ∨ a + 4 < x.toInt := by omega
theorem zsw16 {x : Int32} (h4 : ¬ x.toInt = 4) (h5 : ¬ x.toInt = 5) (h6 : ¬ x.toInt = 6) (h7 : ¬ x.toInt = 7) (h8 : ¬ x.toInt = 8) (h9 : ¬ x.toInt = 9) (h10 : ¬ x.toInt = 10) (h11 : ¬ x.toInt = 11) (h12 : ¬ x.toInt = 12) (h13 : ¬ x.toInt = 13) (h14 : ¬ x.toInt = 14) (h15 : ¬ x.toInt = 15) (h16 : ¬ x.toInt = 16) (h17 : ¬ x.toInt = 17) (h18 : ¬ x.toInt = 18) (h19 : ¬ x.toInt = 19) : x.toInt < 4 ∨ 19 < x.toInt := by omega
end
section
theorem zin_rp {x y : Int32} (hx : vp_in x 16) (hy : vp_in y 6) : vp_in ((x * (6 : Int32)) + y) 96 := by
  obtain ⟨r, hr, rfl⟩ := vp_in_of hx (by omega)
  obtain ⟨k, hk, rfl⟩ := vp_in_of hy (by omega)
  rw [show (6 : Int32) = nI 6 from rfl, pk_mul, nI_add]
  exact vp_in_nI (by omega) (by omega)
abbrev rm_J6_bitCount_0f7a4 : Room := { frames := 0, cells := 0, slots := 0, locals := 0 }
def zb1 (p0 : Int32) : Int32 := (p0 - (((p0.toUInt32 >>> ((1 : Int32).toUInt32 &&& Int32.toUInt32 31)).toInt32) &&& (1431655765 : Int32)))
def zb2 (p0 : Int32) : Int32 := (((zb1 p0) &&& (858993459 : Int32)) + ((((zb1 p0).toUInt32 >>> ((2 : Int32).toUInt32 &&& Int32.toUInt32 31)).toInt32) &&& (858993459 : Int32)))
def zb3 (p0 : Int32) : Int32 := (((zb2 p0) + (((zb2 p0).toUInt32 >>> ((4 : Int32).toUInt32 &&& Int32.toUInt32 31)).toInt32)) &&& (252645135 : Int32))
def zb4 (p0 : Int32) : Int32 := ((zb3 p0) + (((zb3 p0).toUInt32 >>> ((8 : Int32).toUInt32 &&& Int32.toUInt32 31)).toInt32))
def zb5 (p0 : Int32) : Int32 := ((zb4 p0) + (((zb4 p0).toUInt32 >>> ((16 : Int32).toUInt32 &&& Int32.toUInt32 31)).toInt32))
def f_J6_bitCount_0f7a4 (p0 : Int32) : Int32 := ((zb5 p0) &&& (63 : Int32))
set_option maxRecDepth 100000 in
set_option maxHeartbeats 4000000 in
theorem m_J6_bitCount_0f7a4 (l : Launch) (g : zG) (p0 : Int32) : ZI l yJ6_bitCount_0f7a4 wsJ6_bitCount_0f7a4 rm_J6_bitCount_0f7a4 g [] [.int p0] (f_J6_bitCount_0f7a4 p0) [] := by
  refine zopenI (cc := cJ6_bitCount_0f7a4) (maxL := 1) (ret := .int) (by decide +kernel) rfl (Nat.le_of_ble_eq_true rfl) ?_
  intro p e s m below meth c A Q ls hx hb hml hown hts hP hK hD hA hN hl hret
  have hS : va_S A s.heap s.heap [] := va_S.rf
  have hl : lv_has ls 1 [(0, .int p0)] := hl
  have hown : s.vm.findClass RJ6 = some m.cls := hown
  refine lv_iload_n hx hb dJ6_bitCount_0f7a4_0 rfl (lv_at hl 0 rfl) ?_
  refine lv_iload_n hx hb dJ6_bitCount_0f7a4_1 rfl (lv_at hl 0 rfl) ?_
  refine lv_iconst (v := (1 : Int32)) hx hb dJ6_bitCount_0f7a4_2 (by decide) ?_
  refine lv_iushr hx hb dJ6_bitCount_0f7a4_3 rfl ?_
  refine lv_ldcw (v := (1431655765 : Int32)) hx hb hown (hts (.constant RJ6 265 (1431655765)) (by decide +kernel)) dJ6_bitCount_0f7a4_4 ?_
  refine lv_iand hx hb dJ6_bitCount_0f7a4_7 ?_
  refine lv_isub hx hb dJ6_bitCount_0f7a4_8 ?_
  refine lv_istore_n (lv' := [(0, .int (zb1 p0))]) hx hb dJ6_bitCount_0f7a4_9 rfl hl (by decide) rfl (fun ls hl => ?_)
  refine lv_iload_n hx hb dJ6_bitCount_0f7a4_10 rfl (lv_at hl 0 rfl) ?_
  refine lv_ldcw (v := (858993459 : Int32)) hx hb hown (hts (.constant RJ6 266 (858993459)) (by decide +kernel)) dJ6_bitCount_0f7a4_11 ?_
  refine lv_iand hx hb dJ6_bitCount_0f7a4_14 ?_
  refine lv_iload_n hx hb dJ6_bitCount_0f7a4_15 rfl (lv_at hl 0 rfl) ?_
  refine lv_iconst (v := (2 : Int32)) hx hb dJ6_bitCount_0f7a4_16 (by decide) ?_
  refine lv_iushr hx hb dJ6_bitCount_0f7a4_17 rfl ?_
  refine lv_ldcw (v := (858993459 : Int32)) hx hb hown (hts (.constant RJ6 266 (858993459)) (by decide +kernel)) dJ6_bitCount_0f7a4_18 ?_
  refine lv_iand hx hb dJ6_bitCount_0f7a4_21 ?_
  refine lv_iadd hx hb dJ6_bitCount_0f7a4_22 ?_
  refine lv_istore_n (lv' := [(0, .int (zb2 p0))]) hx hb dJ6_bitCount_0f7a4_23 rfl hl (by decide) rfl (fun ls hl => ?_)
  refine lv_iload_n hx hb dJ6_bitCount_0f7a4_24 rfl (lv_at hl 0 rfl) ?_
  refine lv_iload_n hx hb dJ6_bitCount_0f7a4_25 rfl (lv_at hl 0 rfl) ?_
  refine lv_iconst (v := (4 : Int32)) hx hb dJ6_bitCount_0f7a4_26 (by decide) ?_
  refine lv_iushr hx hb dJ6_bitCount_0f7a4_27 rfl ?_
  refine lv_iadd hx hb dJ6_bitCount_0f7a4_28 ?_
  refine lv_ldcw (v := (252645135 : Int32)) hx hb hown (hts (.constant RJ6 267 (252645135)) (by decide +kernel)) dJ6_bitCount_0f7a4_29 ?_
  refine lv_iand hx hb dJ6_bitCount_0f7a4_32 ?_
  refine lv_istore_n (lv' := [(0, .int (zb3 p0))]) hx hb dJ6_bitCount_0f7a4_33 rfl hl (by decide) rfl (fun ls hl => ?_)
  refine lv_iload_n hx hb dJ6_bitCount_0f7a4_34 rfl (lv_at hl 0 rfl) ?_
  refine lv_iload_n hx hb dJ6_bitCount_0f7a4_35 rfl (lv_at hl 0 rfl) ?_
  refine lv_bipush (v := (8 : Int32)) hx hb dJ6_bitCount_0f7a4_36 (by decide) ?_
  refine lv_iushr hx hb dJ6_bitCount_0f7a4_38 rfl ?_
  refine lv_iadd hx hb dJ6_bitCount_0f7a4_39 ?_
  refine lv_istore_n (lv' := [(0, .int (zb4 p0))]) hx hb dJ6_bitCount_0f7a4_40 rfl hl (by decide) rfl (fun ls hl => ?_)
  refine lv_iload_n hx hb dJ6_bitCount_0f7a4_41 rfl (lv_at hl 0 rfl) ?_
  refine lv_iload_n hx hb dJ6_bitCount_0f7a4_42 rfl (lv_at hl 0 rfl) ?_
  refine lv_bipush (v := (16 : Int32)) hx hb dJ6_bitCount_0f7a4_43 (by decide) ?_
  refine lv_iushr hx hb dJ6_bitCount_0f7a4_45 rfl ?_
  refine lv_iadd hx hb dJ6_bitCount_0f7a4_46 ?_
  refine lv_istore_n (lv' := [(0, .int (zb5 p0))]) hx hb dJ6_bitCount_0f7a4_47 rfl hl (by decide) rfl (fun ls hl => ?_)
  refine lv_iload_n hx hb dJ6_bitCount_0f7a4_48 rfl (lv_at hl 0 rfl) ?_
  refine lv_bipush (v := (63 : Int32)) hx hb dJ6_bitCount_0f7a4_49 (by decide) ?_
  refine lv_iand hx hb dJ6_bitCount_0f7a4_51 ?_
  have E : (f_J6_bitCount_0f7a4 p0) = ((zb5 p0) &&& (63 : Int32)) := rfl
  exact hret _ _ _ _ _ _ dJ6_bitCount_0f7a4_52 E.symm (rfl) rfl hP hD hS
abbrev rm_J9_floorMod_7cf53 : Room := { frames := 0, cells := 0, slots := 0, locals := 0 }
def f_J9_floorMod_7cf53 (p0 : Int32) (p1 : Int32) : Int32 := if (0 : Int32) ≤ (p0 ^^^ p1) then ((p0 - ((p0 / p1) * p1))) else (if (p0 - ((p0 / p1) * p1)) = (0 : Int32) then ((p0 - ((p0 / p1) * p1))) else (((p0 - ((p0 / p1) * p1)) + p1)))
set_option maxRecDepth 100000 in
set_option maxHeartbeats 4000000 in
theorem m_J9_floorMod_7cf53 (l : Launch) (g : zG) (p0 : Int32) (p1 : Int32) (h1 : ¬ p1 = 0) : ZI l yJ9_floorMod_7cf53 wsJ9_floorMod_7cf53 rm_J9_floorMod_7cf53 g [] [.int p0, .int p1] (f_J9_floorMod_7cf53 p0 p1) [] := by
  refine zopenI (cc := cJ9_floorMod_7cf53) (maxL := 3) (ret := .int) (by decide +kernel) rfl (Nat.le_of_ble_eq_true rfl) ?_
  intro p e s m below meth c A Q ls hx hb hml hown hts hP hK hD hA hN hl hret
  have hS : va_S A s.heap s.heap [] := va_S.rf
  have hl : lv_has ls 3 [(0, .int p0), (1, .int p1)] := hl
  have hown : s.vm.findClass RJ9 = some m.cls := hown
  refine lv_iload_n hx hb dJ9_floorMod_7cf53_0 rfl (lv_at hl 0 rfl) ?_
  refine lv_iload_n hx hb dJ9_floorMod_7cf53_1 rfl (lv_at hl 1 rfl) ?_
  refine lv_irem hx hb dJ9_floorMod_7cf53_2 h1 ?_
  refine lv_istore_n (lv' := [(2, .int (p0 - ((p0 / p1) * p1))), (0, .int p0), (1, .int p1)]) hx hb dJ9_floorMod_7cf53_3 rfl hl (by decide) rfl (fun ls hl => ?_)
  refine lv_iload_n hx hb dJ9_floorMod_7cf53_4 rfl (lv_at hl 1 rfl) ?_
  refine lv_iload_n hx hb dJ9_floorMod_7cf53_5 rfl (lv_at hl 2 rfl) ?_
  refine lv_ixor hx hb dJ9_floorMod_7cf53_6 ?_
  refine lv_if_ge (tgt := 18) hx hb dJ9_floorMod_7cf53_7 (by decide) (fun c_7 => ?_) (fun c_7 => ?_)
  · refine lv_iload_n hx hb dJ9_floorMod_7cf53_18 rfl (lv_at hl 0 rfl) ?_
    have E : (f_J9_floorMod_7cf53 p0 p1) = (p0 - ((p0 / p1) * p1)) := (if_pos c_7).trans rfl
    exact hret _ _ _ _ _ _ dJ9_floorMod_7cf53_19 E.symm (rfl) rfl hP hD hS
  · refine lv_iload_n hx hb dJ9_floorMod_7cf53_10 rfl (lv_at hl 0 rfl) ?_
    refine lv_if_eq (tgt := 18) hx hb dJ9_floorMod_7cf53_11 (by decide) (fun c_11 => ?_) (fun c_11 => ?_)
    · refine lv_iload_n hx hb dJ9_floorMod_7cf53_18 rfl (lv_at hl 0 rfl) ?_
      have E : (f_J9_floorMod_7cf53 p0 p1) = (p0 - ((p0 / p1) * p1)) := (if_neg c_7).trans ((if_pos c_11).trans rfl)
      exact hret _ _ _ _ _ _ dJ9_floorMod_7cf53_19 E.symm (rfl) rfl hP hD hS
    · refine lv_iload_n hx hb dJ9_floorMod_7cf53_14 rfl (lv_at hl 0 rfl) ?_
      refine lv_iload_n hx hb dJ9_floorMod_7cf53_15 rfl (lv_at hl 2 rfl) ?_
      refine lv_iadd hx hb dJ9_floorMod_7cf53_16 ?_
      have E : (f_J9_floorMod_7cf53 p0 p1) = ((p0 - ((p0 / p1) * p1)) + p1) := (if_neg c_7).trans ((if_neg c_11).trans rfl)
      exact hret _ _ _ _ _ _ dJ9_floorMod_7cf53_17 E.symm (rfl) rfl hP hD hS
abbrev rm_X1_rowBehind : Room := { frames := 0, cells := 0, slots := 0, locals := 0 }
def f_X1_rowBehind (p0 : Int32) : Int32 := if p0 < (15 : Int32) then ((p0 + (1 : Int32))) else ((0 : Int32))
set_option maxRecDepth 100000 in
set_option maxHeartbeats 4000000 in
theorem m_X1_rowBehind (l : Launch) (g : zG) (p0 : Int32) : ZI l yX1_rowBehind wsX1_rowBehind rm_X1_rowBehind g [] [.int p0] (f_X1_rowBehind p0) [] := by
  refine zopenI (cc := cX1_rowBehind) (maxL := 1) (ret := .int) (by decide +kernel) rfl (Nat.le_of_ble_eq_true rfl) ?_
  intro p e s m below meth c A Q ls hx hb hml hown hts hP hK hD hA hN hl hret
  have hS : va_S A s.heap s.heap [] := va_S.rf
  have hl : lv_has ls 1 [(0, .int p0)] := hl
  have hown : s.vm.findClass RX1 = some m.cls := hown
  refine lv_iload_n hx hb dX1_rowBehind_0 rfl (lv_at hl 0 rfl) ?_
  refine lv_bipush (v := (15 : Int32)) hx hb dX1_rowBehind_1 (by decide) ?_
  refine lv_icmp_lt (tgt := 10) hx hb dX1_rowBehind_3 (by decide) (fun c_3 => ?_) (fun c_3 => ?_)
  · refine lv_iload_n hx hb dX1_rowBehind_10 rfl (lv_at hl 0 rfl) ?_
    refine lv_iconst (v := (1 : Int32)) hx hb dX1_rowBehind_11 (by decide) ?_
    refine lv_iadd hx hb dX1_rowBehind_12 ?_
    have E : (f_X1_rowBehind p0) = (p0 + (1 : Int32)) := (if_pos c_3).trans rfl
    exact hret _ _ _ _ _ _ dX1_rowBehind_13 E.symm (rfl) rfl hP hD hS
  · refine lv_iconst (v := (0 : Int32)) hx hb dX1_rowBehind_6 (by decide) ?_
    refine lv_goto (tgt := 13) hx hb dX1_rowBehind_7 (by decide) ?_
    have E : (f_X1_rowBehind p0) = (0 : Int32) := (if_neg c_3).trans rfl
    exact hret _ _ _ _ _ _ dX1_rowBehind_13 E.symm (rfl) rfl hP hD hS
abbrev rm_X1_goOn : Room := { frames := 1, cells := 0, slots := 0, locals := 20 }
set_option maxRecDepth 20000 in
theorem zin_X1_goOn_X1 : ∀ w ∈ wsX10, w ∈ wsX1_goOn := by decide +kernel
def s_X1_goOn_8 (v : zCV) : zCV := zS v 4 (f_X1_rowBehind (v.1 4))
def f_X1_goOn (v : zCV) : zCV := (s_X1_goOn_8 v)
set_option maxRecDepth 100000 in
set_option maxHeartbeats 4000000 in
theorem m_X1_goOn (l : Launch) (g : zG) (q : Nat → Nat) (v : zCV) : ZV l yX1_goOn wsX1_goOn rm_X1_goOn g (ck g q v) [.ref (q 2)] (ck g q (f_X1_goOn v)) := by
  refine zopenV (cc := cX1_goOn) (maxL := 1) (by decide +kernel) rfl (Nat.le_of_ble_eq_true rfl) ?_
  intro p e s m below meth c A Q ls hx hb hml hown hts hP hK hD hA hN hl hret
  have hS : va_S A s.heap s.heap [] := va_S.rf
  have hl : lv_has ls 1 [(0, .ref (q 2))] := hl
  have hown : s.vm.findClass RX1 = some m.cls := hown
  refine lv_aload_n hx hb dX1_goOn_0 rfl (lv_at hl 0 rfl) ?_
  refine lv_aload_n hx hb dX1_goOn_1 rfl (lv_at hl 0 rfl) ?_
  refine va_get (D := g.1) (ci := 1) (v := .int (v.1 4)) (C := RX1) (T := TX1) (N := 4) hx hb hts (zin_X1_goOn_X1) hown hK hP 2 rfl rfl 2 (by decide) (hts (.fieldLink RX1 24 "PegClerks$Drum" "at" "I") (by decide +kernel)) (fun _ h9 => h9) rfl dX1_goOn_2 ?_
  refine zcSi (n := 1) (As := [.int (v.1 4)]) (rest := [.ref (q 2)]) hx hb hml hown hts hN (m_X1_rowBehind l g (v.1 4)) gX1_goOn_X1_rowBehind rfl (by decide +kernel) ⟨rfl, rfl⟩ ⟨Nat.le_of_ble_eq_true rfl, Nat.le_of_ble_eq_true rfl⟩ hK hP hD hS hA rfl hl.1 rfl (Nat.le_of_ble_eq_true rfl) dX1_goOn_5 ⟨Nat.zero_le _, Nat.zero_le _⟩ (fun H locs hP hD hS => ?_)
  refine va_put (D := g.1) (ci := 1) (v := .int (f_X1_rowBehind (v.1 4))) (ty := .int) (C := RX1) (T := TX1) (N := 4) hx hb hts (zin_X1_goOn_X1) tyX1 tyX1_ok nmX1 hown hK hP hD hS 2 rfl rfl 2 (by decide) (hts (.fieldLink RX1 24 "PegClerks$Drum" "at" "I") (by decide +kernel)) (fun _ h9 => h9) rfl (by decide +kernel) rfl rfl (Nat.le_of_ble_eq_true rfl) dX1_goOn_8 (fun H locs hP hD hS => ?_)
  have hP : va_P g.1 vwCl (ck g q (s_X1_goOn_8 v)) H := (congrArg (fun z => va_P g.1 vwCl z H) (ck_S4 g q v (f_X1_rowBehind (v.1 4)))).mp hP
  have hD : va_D A (ck g q (s_X1_goOn_8 v)) := (congrArg (fun z => va_D A z) (ck_S4 g q v (f_X1_rowBehind (v.1 4)))).mp hD
  have E : (f_X1_goOn v) = (s_X1_goOn_8 v) := rfl
  exact hret _ _ _ _ _ dX1_goOn_11 (congrArg (fun z => (ck g q z)) E).symm hP hD hS
abbrev rm_X1_hasPeg : Room := { frames := 0, cells := 0, slots := 0, locals := 0 }
set_option maxRecDepth 20000 in
theorem zin_X1_hasPeg_X1 : ∀ w ∈ wsX10, w ∈ wsX1_hasPeg := by decide +kernel
def f_X1_hasPeg (v : zCV) (p0 : Int32) (p1 : Int32) : Int32 := if ((((v.2 1) p0.toNatClampNeg) >>> (p1 &&& 31)) &&& (1 : Int32)) = (0 : Int32) then ((0 : Int32)) else ((1 : Int32))
set_option maxRecDepth 100000 in
set_option maxHeartbeats 4000000 in
theorem m_X1_hasPeg (l : Launch) (g : zG) (q : Nat → Nat) (v : zCV) (p0 : Int32) (p1 : Int32) (h0 : vp_in p0 16) : ZI l yX1_hasPeg wsX1_hasPeg rm_X1_hasPeg g (ck g q v) [.ref (q 2), .int p0, .int p1] (f_X1_hasPeg v p0 p1) (ck g q v) := by
  refine zopenI (cc := cX1_hasPeg) (maxL := 3) (ret := .boolean) (by decide +kernel) rfl (Nat.le_of_ble_eq_true rfl) ?_
  intro p e s m below meth c A Q ls hx hb hml hown hts hP hK hD hA hN hl hret
  have hS : va_S A s.heap s.heap [] := va_S.rf
  have hl : lv_has ls 3 [(0, .ref (q 2)), (1, .int p0), (2, .int p1)] := hl
  have hown : s.vm.findClass RX1 = some m.cls := hown
  refine lv_aload_n hx hb dX1_hasPeg_0 rfl (lv_at hl 0 rfl) ?_
  refine va_get (D := g.1) (ci := 1) (v := .ref (q 3)) (C := RX1) (T := TX1) (N := 4) hx hb hts (zin_X1_hasPeg_X1) hown hK hP 2 rfl rfl 0 (by decide) (hts (.fieldLink RX1 9 "PegClerks$Drum" "rows" "[I") (by decide +kernel)) (fun _ h9 => h9) rfl dX1_hasPeg_1 ?_
  refine lv_iload_n hx hb dX1_hasPeg_4 rfl (lv_at hl 1 rfl) ?_
  refine z_iald (f := (v.2 1)) (k := p0.toNatClampNeg) hx hb hK hP 3 0 rfl rfl h0 rfl dX1_hasPeg_5 ?_
  refine lv_iload_n hx hb dX1_hasPeg_6 rfl (lv_at hl 2 rfl) ?_
  refine lv_ishr hx hb dX1_hasPeg_7 ?_
  refine lv_iconst (v := (1 : Int32)) hx hb dX1_hasPeg_8 (by decide) ?_
  refine lv_iand hx hb dX1_hasPeg_9 ?_
  refine lv_if_eq (tgt := 17) hx hb dX1_hasPeg_10 (by decide) (fun c_10 => ?_) (fun c_10 => ?_)
  · refine lv_iconst (v := (0 : Int32)) hx hb dX1_hasPeg_17 (by decide) ?_
    have E : (f_X1_hasPeg v p0 p1) = (0 : Int32) := (if_pos c_10).trans rfl
    exact hret _ _ _ _ _ _ dX1_hasPeg_18 E.symm (rfl) rfl hP hD hS
  · refine lv_iconst (v := (1 : Int32)) hx hb dX1_hasPeg_13 (by decide) ?_
    refine lv_goto (tgt := 18) hx hb dX1_hasPeg_14 (by decide) ?_
    have E : (f_X1_hasPeg v p0 p1) = (1 : Int32) := (if_neg c_10).trans rfl
    exact hret _ _ _ _ _ _ dX1_hasPeg_18 E.symm (rfl) rfl hP hD hS
abbrev rm_X1_pegsInRow : Room := { frames := 1, cells := 0, slots := 0, locals := 20 }
set_option maxRecDepth 20000 in
theorem zin_X1_pegsInRow_X1 : ∀ w ∈ wsX10, w ∈ wsX1_pegsInRow := by decide +kernel
def f_X1_pegsInRow (v : zCV) (p0 : Int32) : Int32 := (f_J6_bitCount_0f7a4 ((v.2 1) p0.toNatClampNeg))
set_option maxRecDepth 100000 in
set_option maxHeartbeats 4000000 in
theorem m_X1_pegsInRow (l : Launch) (g : zG) (q : Nat → Nat) (v : zCV) (p0 : Int32) (h0 : vp_in p0 16) : ZI l yX1_pegsInRow wsX1_pegsInRow rm_X1_pegsInRow g (ck g q v) [.ref (q 2), .int p0] (f_X1_pegsInRow v p0) (ck g q v) := by
  refine zopenI (cc := cX1_pegsInRow) (maxL := 2) (ret := .int) (by decide +kernel) rfl (Nat.le_of_ble_eq_true rfl) ?_
  intro p e s m below meth c A Q ls hx hb hml hown hts hP hK hD hA hN hl hret
  have hS : va_S A s.heap s.heap [] := va_S.rf
  have hl : lv_has ls 2 [(0, .ref (q 2)), (1, .int p0)] := hl
  have hown : s.vm.findClass RX1 = some m.cls := hown
  refine lv_aload_n hx hb dX1_pegsInRow_0 rfl (lv_at hl 0 rfl) ?_
  refine va_get (D := g.1) (ci := 1) (v := .ref (q 3)) (C := RX1) (T := TX1) (N := 4) hx hb hts (zin_X1_pegsInRow_X1) hown hK hP 2 rfl rfl 0 (by decide) (hts (.fieldLink RX1 9 "PegClerks$Drum" "rows" "[I") (by decide +kernel)) (fun _ h9 => h9) rfl dX1_pegsInRow_1 ?_
  refine lv_iload_n hx hb dX1_pegsInRow_4 rfl (lv_at hl 1 rfl) ?_
  refine z_iald (f := (v.2 1)) (k := p0.toNatClampNeg) hx hb hK hP 3 0 rfl rfl h0 rfl dX1_pegsInRow_5 ?_
  refine zcSi (n := 1) (As := [.int ((v.2 1) p0.toNatClampNeg)]) (rest := []) hx hb hml hown hts hN (m_J6_bitCount_0f7a4 l g ((v.2 1) p0.toNatClampNeg)) gX1_pegsInRow_J6_bitCount_0f7a4 rfl (by decide +kernel) ⟨rfl, rfl⟩ ⟨Nat.le_of_ble_eq_true rfl, Nat.le_of_ble_eq_true rfl⟩ hK hP hD hS hA rfl hl.1 rfl (Nat.le_of_ble_eq_true rfl) dX1_pegsInRow_6 ⟨Nat.zero_le _, Nat.zero_le _⟩ (fun H locs hP hD hS => ?_)
  have E : (f_X1_pegsInRow v p0) = (f_J6_bitCount_0f7a4 ((v.2 1) p0.toNatClampNeg)) := rfl
  exact hret _ _ _ _ _ _ dX1_pegsInRow_9 E.symm (rfl) rfl hP hD hS
abbrev rm_X1_pegsAtPlace : Room := { frames := 1, cells := 0, slots := 0, locals := 22 }
def r_X1_pegsAtPlace_13 (v : zCV) (p0 : Int32) (i4 : Nat) : Int32 := (f_X1_hasPeg v (nI i4) p0)
def f_X1_pegsAtPlace_L4 (v : zCV) (p0 : Int32) : Nat → Nat → Int32 → Int32
  | 0, i4, x4_2 => x4_2
  | n4 + 1, i4, x4_2 => if (r_X1_pegsAtPlace_13 v p0 i4) = (0 : Int32) then ((f_X1_pegsAtPlace_L4 v p0 n4 (i4 + 1) x4_2)) else ((f_X1_pegsAtPlace_L4 v p0 n4 (i4 + 1) (x4_2 + (1 : Int32))))
def f_X1_pegsAtPlace (v : zCV) (p0 : Int32) : Int32 := (f_X1_pegsAtPlace_L4 v p0 16 0 (0 : Int32))
set_option maxRecDepth 100000 in
set_option maxHeartbeats 4000000 in
theorem m_X1_pegsAtPlace (l : Launch) (g : zG) (q : Nat → Nat) (v : zCV) (p0 : Int32) : ZI l yX1_pegsAtPlace wsX1_pegsAtPlace rm_X1_pegsAtPlace g (ck g q v) [.ref (q 2), .int p0] (f_X1_pegsAtPlace v p0) (ck g q v) := by
  refine zopenI (cc := cX1_pegsAtPlace) (maxL := 4) (ret := .int) (by decide +kernel) rfl (Nat.le_of_ble_eq_true rfl) ?_
  intro p e s m below meth c A Q ls hx hb hml hown hts hP hK hD hA hN hl hret
  have hS : va_S A s.heap s.heap [] := va_S.rf
  have hl : lv_has ls 4 [(0, .ref (q 2)), (1, .int p0)] := hl
  have hown : s.vm.findClass RX1 = some m.cls := hown
  refine lv_iconst (v := (0 : Int32)) hx hb dX1_pegsAtPlace_0 (by decide) ?_
  refine lv_istore_n (lv' := [(2, .int (0 : Int32)), (0, .ref (q 2)), (1, .int p0)]) hx hb dX1_pegsAtPlace_1 rfl hl (by decide) rfl (fun ls hl => ?_)
  refine lv_iconst (v := (0 : Int32)) hx hb dX1_pegsAtPlace_2 (by decide) ?_
  refine lv_istore_n (lv' := [(3, .int (0 : Int32)), (2, .int (0 : Int32)), (0, .ref (q 2)), (1, .int p0)]) hx hb dX1_pegsAtPlace_3 rfl hl (by decide) rfl (fun ls hl => ?_)
  have L4 : ∀ (n4 : Nat) (i4 : Nat), i4 + n4 = 16 → ∀ (x4_2 : Int32) (H : Heap) (locs : List Loc) (ls : Array Slot), va_P g.1 vwCl (ck g q v) H → va_D A (ck g q v) → va_S A s.heap H locs → lv_has ls 4 [(3, .int (nI i4)), (2, .int x4_2), (0, .ref (q 2)), (1, .int p0)] → (∀ (H : Heap) (locs : List Loc) (ls : Array Slot), va_P g.1 vwCl (ck g q v) H → va_D A (ck g q v) → va_S A s.heap H locs → lv_has ls 4 [(2, .int (f_X1_pegsAtPlace_L4 v p0 n4 i4 x4_2)), (0, .ref (q 2)), (1, .int p0)] → W p l e rm_X1_pegsAtPlace s m ([.ref (q 2), .int p0] : List Value).toArray below meth c H locs 0 0 Q (F0 m 28 ls [])) → W p l e rm_X1_pegsAtPlace s m ([.ref (q 2), .int p0] : List Value).toArray below meth c H locs 0 0 Q (F0 m 4 ls []) := by
    intro n4
    induction n4 with
    | zero =>
      intro i4 hin4 x4_2 H locs ls hP hD hS hl kx
      refine lv_iload_n hx hb dX1_pegsAtPlace_4 rfl (lv_at hl 0 rfl) ?_
      refine lv_bipush (v := (16 : Int32)) hx hb dX1_pegsAtPlace_5 (by decide) ?_
      refine lv_icmp_ge (tgt := 28) hx hb dX1_pegsAtPlace_7 (by decide) (fun c_7 => ?_) (fun c_7 => ?_)
      rotate_left
      · exact absurd (by rw [show i4 = 16 by omega]; decide) c_7
      have E : (f_X1_pegsAtPlace_L4 v p0 0 i4 x4_2) = x4_2 := rfl
      rw [E] at kx
      exact kx _ _ _ hP hD hS (lv_sub hl [1, 2, 3] rfl)
    | succ n4 ih4 =>
      intro i4 hin4 x4_2 H locs ls hP hD hS hl kx
      refine lv_iload_n hx hb dX1_pegsAtPlace_4 rfl (lv_at hl 0 rfl) ?_
      refine lv_bipush (v := (16 : Int32)) hx hb dX1_pegsAtPlace_5 (by decide) ?_
      refine lv_icmp_ge (tgt := 28) hx hb dX1_pegsAtPlace_7 (by decide) (fun c_7 => ?_) (fun c_7 => ?_)
      · exact absurd c_7 (nI_ge (a := i4) (b := 16) (by omega) (by omega))
      refine lv_aload_n hx hb dX1_pegsAtPlace_10 rfl (lv_at hl 2 rfl) ?_
      refine lv_iload_n hx hb dX1_pegsAtPlace_11 rfl (lv_at hl 0 rfl) ?_
      refine lv_iload_n hx hb dX1_pegsAtPlace_12 rfl (lv_at hl 3 rfl) ?_
      refine zcVi (n := 2) (As := [.int (nI i4), .int p0]) (rest := []) (Xr := []) (Xn := (ck g q v)) (ci := 1) (C := RX1) (T := TX1) (N := 4) (q0 := 2) hx hb hml hown hts hN (m_X1_hasPeg l g q v (nI i4) p0 (vp_in_nI (by omega) (by omega))) gX1_pegsAtPlace_X1_hasPeg rfl (by decide +kernel) ⟨rfl, rfl⟩ ⟨Nat.le_of_ble_eq_true rfl, Nat.le_of_ble_eq_true rfl⟩ hK hP hD hS hA (zpn _) rfl rfl rfl hl.1 rfl (Nat.le_of_ble_eq_true rfl) dX1_pegsAtPlace_13 ⟨Nat.zero_le _, Nat.zero_le _⟩ (zpn' _) (fun H locs hP hD hS => ?_)
      refine lv_if_eq (tgt := 22) hx hb dX1_pegsAtPlace_16 (by decide) (fun c_16 => ?_) (fun c_16 => ?_)
      · refine lv_iinc (v := (nI (i4 + 1))) (lv' := [(3, .int (nI (i4 + 1))), (2, .int x4_2), (0, .ref (q 2)), (1, .int p0)]) hx hb dX1_pegsAtPlace_22 hl (k := 0) rfl (nI_1 i4) (by decide) rfl (fun ls hl => ?_)
        refine lv_goto (tgt := 4) hx hb dX1_pegsAtPlace_25 (by decide) ?_
        have E : (f_X1_pegsAtPlace_L4 v p0 (n4 + 1) i4 x4_2) = (f_X1_pegsAtPlace_L4 v p0 n4 (i4 + 1) x4_2) := (if_pos c_16).trans rfl
        rw [E] at kx
        exact ih4 (i4 + 1) (by omega) x4_2 _ _ _  hP hD hS (lv_sub hl [0, 1, 2, 3] rfl) kx
      · refine lv_iinc (v := (x4_2 + (1 : Int32))) (lv' := [(2, .int (x4_2 + (1 : Int32))), (3, .int (nI i4)), (0, .ref (q 2)), (1, .int p0)]) hx hb dX1_pegsAtPlace_19 hl (k := 1) rfl rfl (by decide) rfl (fun ls hl => ?_)
        refine lv_iinc (v := (nI (i4 + 1))) (lv' := [(3, .int (nI (i4 + 1))), (2, .int (x4_2 + (1 : Int32))), (0, .ref (q 2)), (1, .int p0)]) hx hb dX1_pegsAtPlace_22 hl (k := 1) rfl (nI_1 i4) (by decide) rfl (fun ls hl => ?_)
        refine lv_goto (tgt := 4) hx hb dX1_pegsAtPlace_25 (by decide) ?_
        have E : (f_X1_pegsAtPlace_L4 v p0 (n4 + 1) i4 x4_2) = (f_X1_pegsAtPlace_L4 v p0 n4 (i4 + 1) (x4_2 + (1 : Int32))) := (if_neg c_16).trans rfl
        rw [E] at kx
        exact ih4 (i4 + 1) (by omega) (x4_2 + (1 : Int32)) _ _ _  hP hD hS (lv_sub hl [0, 1, 2, 3] rfl) kx
  refine L4 16 0 (by omega) (0 : Int32) _ _ _  hP hD hS (lv_sub hl [0, 1, 2, 3] rfl) (fun H locs ls hP hD hS hl => ?_)
  refine lv_iload_n hx hb dX1_pegsAtPlace_28 rfl (lv_at hl 0 rfl) ?_
  have E : (f_X1_pegsAtPlace v p0) = (f_X1_pegsAtPlace_L4 v p0 16 0 (0 : Int32)) := rfl
  exact hret _ _ _ _ _ _ dX1_pegsAtPlace_29 E.symm (rfl) rfl hP hD hS
abbrev rm_X1_allPegs : Room := { frames := 2, cells := 0, slots := 0, locals := 41 }
def r_X1_allPegs_13 (v : zCV) (i4 : Nat) : Int32 := (f_X1_pegsInRow v (nI i4))
def f_X1_allPegs_L4 (v : zCV) : Nat → Nat → Int32 → Int32
  | 0, i4, x4_1 => x4_1
  | n4 + 1, i4, x4_1 => (f_X1_allPegs_L4 v n4 (i4 + 1) (x4_1 + (r_X1_allPegs_13 v i4)))
def f_X1_allPegs (v : zCV) : Int32 := (f_X1_allPegs_L4 v 16 0 (0 : Int32))
set_option maxRecDepth 100000 in
set_option maxHeartbeats 4000000 in
theorem m_X1_allPegs (l : Launch) (g : zG) (q : Nat → Nat) (v : zCV) : ZI l yX1_allPegs wsX1_allPegs rm_X1_allPegs g (ck g q v) [.ref (q 2)] (f_X1_allPegs v) (ck g q v) := by
  refine zopenI (cc := cX1_allPegs) (maxL := 3) (ret := .int) (by decide +kernel) rfl (Nat.le_of_ble_eq_true rfl) ?_
  intro p e s m below meth c A Q ls hx hb hml hown hts hP hK hD hA hN hl hret
  have hS : va_S A s.heap s.heap [] := va_S.rf
  have hl : lv_has ls 3 [(0, .ref (q 2))] := hl
  have hown : s.vm.findClass RX1 = some m.cls := hown
  refine lv_iconst (v := (0 : Int32)) hx hb dX1_allPegs_0 (by decide) ?_
  refine lv_istore_n (lv' := [(1, .int (0 : Int32)), (0, .ref (q 2))]) hx hb dX1_allPegs_1 rfl hl (by decide) rfl (fun ls hl => ?_)
  refine lv_iconst (v := (0 : Int32)) hx hb dX1_allPegs_2 (by decide) ?_
  refine lv_istore_n (lv' := [(2, .int (0 : Int32)), (1, .int (0 : Int32)), (0, .ref (q 2))]) hx hb dX1_allPegs_3 rfl hl (by decide) rfl (fun ls hl => ?_)
  have L4 : ∀ (n4 : Nat) (i4 : Nat), i4 + n4 = 16 → ∀ (x4_1 : Int32) (H : Heap) (locs : List Loc) (ls : Array Slot), va_P g.1 vwCl (ck g q v) H → va_D A (ck g q v) → va_S A s.heap H locs → lv_has ls 3 [(2, .int (nI i4)), (1, .int x4_1), (0, .ref (q 2))] → (∀ (H : Heap) (locs : List Loc) (ls : Array Slot), va_P g.1 vwCl (ck g q v) H → va_D A (ck g q v) → va_S A s.heap H locs → lv_has ls 3 [(1, .int (f_X1_allPegs_L4 v n4 i4 x4_1)), (0, .ref (q 2))] → W p l e rm_X1_allPegs s m ([.ref (q 2)] : List Value).toArray below meth c H locs 0 0 Q (F0 m 24 ls [])) → W p l e rm_X1_allPegs s m ([.ref (q 2)] : List Value).toArray below meth c H locs 0 0 Q (F0 m 4 ls []) := by
    intro n4
    induction n4 with
    | zero =>
      intro i4 hin4 x4_1 H locs ls hP hD hS hl kx
      refine lv_iload_n hx hb dX1_allPegs_4 rfl (lv_at hl 0 rfl) ?_
      refine lv_bipush (v := (16 : Int32)) hx hb dX1_allPegs_5 (by decide) ?_
      refine lv_icmp_ge (tgt := 24) hx hb dX1_allPegs_7 (by decide) (fun c_7 => ?_) (fun c_7 => ?_)
      rotate_left
      · exact absurd (by rw [show i4 = 16 by omega]; decide) c_7
      have E : (f_X1_allPegs_L4 v 0 i4 x4_1) = x4_1 := rfl
      rw [E] at kx
      exact kx _ _ _ hP hD hS (lv_sub hl [1, 2] rfl)
    | succ n4 ih4 =>
      intro i4 hin4 x4_1 H locs ls hP hD hS hl kx
      refine lv_iload_n hx hb dX1_allPegs_4 rfl (lv_at hl 0 rfl) ?_
      refine lv_bipush (v := (16 : Int32)) hx hb dX1_allPegs_5 (by decide) ?_
      refine lv_icmp_ge (tgt := 24) hx hb dX1_allPegs_7 (by decide) (fun c_7 => ?_) (fun c_7 => ?_)
      · exact absurd c_7 (nI_ge (a := i4) (b := 16) (by omega) (by omega))
      refine lv_iload_n hx hb dX1_allPegs_10 rfl (lv_at hl 1 rfl) ?_
      refine lv_aload_n hx hb dX1_allPegs_11 rfl (lv_at hl 2 rfl) ?_
      refine lv_iload_n hx hb dX1_allPegs_12 rfl (lv_at hl 0 rfl) ?_
      refine zcVi (n := 1) (As := [.int (nI i4)]) (rest := [.int x4_1]) (Xr := []) (Xn := (ck g q v)) (ci := 1) (C := RX1) (T := TX1) (N := 4) (q0 := 2) hx hb hml hown hts hN (m_X1_pegsInRow l g q v (nI i4) (vp_in_nI (by omega) (by omega))) gX1_allPegs_X1_pegsInRow rfl (by decide +kernel) ⟨rfl, rfl⟩ ⟨Nat.le_of_ble_eq_true rfl, Nat.le_of_ble_eq_true rfl⟩ hK hP hD hS hA (zpn _) rfl rfl rfl hl.1 rfl (Nat.le_of_ble_eq_true rfl) dX1_allPegs_13 ⟨Nat.zero_le _, Nat.zero_le _⟩ (zpn' _) (fun H locs hP hD hS => ?_)
      refine lv_iadd hx hb dX1_allPegs_16 ?_
      refine lv_istore_n (lv' := [(1, .int (x4_1 + (r_X1_allPegs_13 v i4))), (2, .int (nI i4)), (0, .ref (q 2))]) hx hb dX1_allPegs_17 rfl hl (by decide) rfl (fun ls hl => ?_)
      refine lv_iinc (v := (nI (i4 + 1))) (lv' := [(2, .int (nI (i4 + 1))), (1, .int (x4_1 + (r_X1_allPegs_13 v i4))), (0, .ref (q 2))]) hx hb dX1_allPegs_18 hl (k := 1) rfl (nI_1 i4) (by decide) rfl (fun ls hl => ?_)
      refine lv_goto (tgt := 4) hx hb dX1_allPegs_21 (by decide) ?_
      have E : (f_X1_allPegs_L4 v (n4 + 1) i4 x4_1) = (f_X1_allPegs_L4 v n4 (i4 + 1) (x4_1 + (r_X1_allPegs_13 v i4))) := rfl
      rw [E] at kx
      exact ih4 (i4 + 1) (by omega) (x4_1 + (r_X1_allPegs_13 v i4)) _ _ _  hP hD hS (lv_sub hl [0, 1, 2] rfl) kx
  refine L4 16 0 (by omega) (0 : Int32) _ _ _  hP hD hS (lv_sub hl [0, 1, 2] rfl) (fun H locs ls hP hD hS hl => ?_)
  refine lv_iload_n hx hb dX1_allPegs_24 rfl (lv_at hl 0 rfl) ?_
  have E : (f_X1_allPegs v) = (f_X1_allPegs_L4 v 16 0 (0 : Int32)) := rfl
  exact hret _ _ _ _ _ _ dX1_allPegs_25 E.symm (rfl) rfl hP hD hS
abbrev rm_X1_giveRow : Room := { frames := 1, cells := 0, slots := 0, locals := 22 }
set_option maxRecDepth 20000 in
theorem zin_X1_giveRow_X1 : ∀ w ∈ wsX10, w ∈ wsX1_giveRow := by decide +kernel
def r_X1_giveRow_11 (p0 : Int32) (i2 : Nat) (w2_0 : zCV) : Int32 := (f_X1_hasPeg w2_0 p0 (nI i2))
def s_X1_giveRow_28 (p0 : Int32) (i2 : Nat) (w2_0 : zCV) : zCV := zA w2_0 2 (upd (w2_0.2 2) ((p0 * (6 : Int32)) + (nI i2)).toNatClampNeg (0 : Int32))
def f_X1_giveRow_L2 (p0 : Int32) : Nat → Nat → zCV → zCV
  | 0, i2, w2_0 => w2_0
  | n2 + 1, i2, w2_0 => if (r_X1_giveRow_11 p0 i2 w2_0) = (0 : Int32) then ((f_X1_giveRow_L2 p0 n2 (i2 + 1) (s_X1_giveRow_28 p0 i2 w2_0))) else ((f_X1_giveRow_L2 p0 n2 (i2 + 1) w2_0))
def s_X1_giveRow_41 (v : zCV) (p0 : Int32) (p1 : Int32) : zCV := zA (f_X1_giveRow_L2 p0 6 0 v) 1 (upd ((f_X1_giveRow_L2 p0 6 0 v).2 1) p0.toNatClampNeg p1)
def f_X1_giveRow (v : zCV) (p0 : Int32) (p1 : Int32) : zCV := (s_X1_giveRow_41 v p0 p1)
set_option maxRecDepth 100000 in
set_option maxHeartbeats 4000000 in
theorem m_X1_giveRow (l : Launch) (g : zG) (q : Nat → Nat) (v : zCV) (p0 : Int32) (p1 : Int32) (h0 : vp_in p0 16) : ZV l yX1_giveRow wsX1_giveRow rm_X1_giveRow g (ck g q v) [.ref (q 2), .int p0, .int p1] (ck g q (f_X1_giveRow v p0 p1)) := by
  refine zopenV (cc := cX1_giveRow) (maxL := 4) (by decide +kernel) rfl (Nat.le_of_ble_eq_true rfl) ?_
  intro p e s m below meth c A Q ls hx hb hml hown hts hP hK hD hA hN hl hret
  have hS : va_S A s.heap s.heap [] := va_S.rf
  have hl : lv_has ls 4 [(0, .ref (q 2)), (1, .int p0), (2, .int p1)] := hl
  have hown : s.vm.findClass RX1 = some m.cls := hown
  refine lv_iconst (v := (0 : Int32)) hx hb dX1_giveRow_0 (by decide) ?_
  refine lv_istore_n (lv' := [(3, .int (0 : Int32)), (0, .ref (q 2)), (1, .int p0), (2, .int p1)]) hx hb dX1_giveRow_1 rfl hl (by decide) rfl (fun ls hl => ?_)
  have L2 : ∀ (n2 : Nat) (i2 : Nat), i2 + n2 = 6 → ∀ (w2_0 : zCV) (H : Heap) (locs : List Loc) (ls : Array Slot), va_P g.1 vwCl (ck g q w2_0) H → va_D A (ck g q w2_0) → va_S A s.heap H locs → lv_has ls 4 [(3, .int (nI i2)), (0, .ref (q 2)), (1, .int p0), (2, .int p1)] → (∀ (H : Heap) (locs : List Loc) (ls : Array Slot), va_P g.1 vwCl (ck g q (f_X1_giveRow_L2 p0 n2 i2 w2_0)) H → va_D A (ck g q (f_X1_giveRow_L2 p0 n2 i2 w2_0)) → va_S A s.heap H locs → lv_has ls 4 [(0, .ref (q 2)), (1, .int p0), (2, .int p1)] → W p l e rm_X1_giveRow s m ([.ref (q 2), .int p0, .int p1] : List Value).toArray below meth c H locs 0 0 Q (F0 m 35 ls [])) → W p l e rm_X1_giveRow s m ([.ref (q 2), .int p0, .int p1] : List Value).toArray below meth c H locs 0 0 Q (F0 m 2 ls []) := by
    intro n2
    induction n2 with
    | zero =>
      intro i2 hin2 w2_0 H locs ls hP hD hS hl kx
      refine lv_iload_n hx hb dX1_giveRow_2 rfl (lv_at hl 0 rfl) ?_
      refine lv_bipush (v := (6 : Int32)) hx hb dX1_giveRow_3 (by decide) ?_
      refine lv_icmp_ge (tgt := 35) hx hb dX1_giveRow_5 (by decide) (fun c_5 => ?_) (fun c_5 => ?_)
      rotate_left
      · exact absurd (by rw [show i2 = 6 by omega]; decide) c_5
      have E : (f_X1_giveRow_L2 p0 0 i2 w2_0) = w2_0 := rfl
      rw [E] at kx
      exact kx _ _ _ hP hD hS (lv_sub hl [1, 2, 3] rfl)
    | succ n2 ih2 =>
      intro i2 hin2 w2_0 H locs ls hP hD hS hl kx
      refine lv_iload_n hx hb dX1_giveRow_2 rfl (lv_at hl 0 rfl) ?_
      refine lv_bipush (v := (6 : Int32)) hx hb dX1_giveRow_3 (by decide) ?_
      refine lv_icmp_ge (tgt := 35) hx hb dX1_giveRow_5 (by decide) (fun c_5 => ?_) (fun c_5 => ?_)
      · exact absurd c_5 (nI_ge (a := i2) (b := 6) (by omega) (by omega))
      refine lv_aload_n hx hb dX1_giveRow_8 rfl (lv_at hl 1 rfl) ?_
      refine lv_iload_n hx hb dX1_giveRow_9 rfl (lv_at hl 2 rfl) ?_
      refine lv_iload_n hx hb dX1_giveRow_10 rfl (lv_at hl 0 rfl) ?_
      refine zcVi (n := 2) (As := [.int p0, .int (nI i2)]) (rest := []) (Xr := []) (Xn := (ck g q w2_0)) (ci := 1) (C := RX1) (T := TX1) (N := 4) (q0 := 2) hx hb hml hown hts hN (m_X1_hasPeg l g q w2_0 p0 (nI i2) h0) gX1_giveRow_X1_hasPeg rfl (by decide +kernel) ⟨rfl, rfl⟩ ⟨Nat.le_of_ble_eq_true rfl, Nat.le_of_ble_eq_true rfl⟩ hK hP hD hS hA (zpn _) rfl rfl rfl hl.1 rfl (Nat.le_of_ble_eq_true rfl) dX1_giveRow_11 ⟨Nat.zero_le _, Nat.zero_le _⟩ (zpn' _) (fun H locs hP hD hS => ?_)
      refine lv_if_ne (tgt := 29) hx hb dX1_giveRow_14 (by decide) (fun c_14 => ?_) (fun c_14 => ?_)
      · refine lv_iinc (v := (nI (i2 + 1))) (lv' := [(3, .int (nI (i2 + 1))), (0, .ref (q 2)), (1, .int p0), (2, .int p1)]) hx hb dX1_giveRow_29 hl (k := 0) rfl (nI_1 i2) (by decide) rfl (fun ls hl => ?_)
        refine lv_goto (tgt := 2) hx hb dX1_giveRow_32 (by decide) ?_
        have E : (f_X1_giveRow_L2 p0 (n2 + 1) i2 w2_0) = (f_X1_giveRow_L2 p0 n2 (i2 + 1) w2_0) := (if_neg c_14).trans rfl
        rw [E] at kx
        exact ih2 (i2 + 1) (by omega) w2_0 _ _ _  hP hD hS (lv_sub hl [0, 1, 2, 3] rfl) kx
      · refine lv_aload_n hx hb dX1_giveRow_17 rfl (lv_at hl 1 rfl) ?_
        refine va_get (D := g.1) (ci := 1) (v := .ref (q 4)) (C := RX1) (T := TX1) (N := 4) hx hb hts (zin_X1_giveRow_X1) hown hK hP 2 rfl rfl 1 (by decide) (hts (.fieldLink RX1 15 "PegClerks$Drum" "stampings" "[I") (by decide +kernel)) (fun _ h9 => h9) rfl dX1_giveRow_18 ?_
        refine lv_iload_n hx hb dX1_giveRow_21 rfl (lv_at hl 2 rfl) ?_
        refine lv_bipush (v := (6 : Int32)) hx hb dX1_giveRow_22 (by decide) ?_
        refine lv_imul hx hb dX1_giveRow_24 ?_
        refine lv_iload_n hx hb dX1_giveRow_25 rfl (lv_at hl 0 rfl) ?_
        refine lv_iadd hx hb dX1_giveRow_26 ?_
        refine lv_iconst (v := (0 : Int32)) hx hb dX1_giveRow_27 (by decide) ?_
        refine z_iast (f := (w2_0.2 2)) (k := ((p0 * (6 : Int32)) + (nI i2)).toNatClampNeg) hx hb hK hP hD hS 4 0 rfl rfl (zin_rp h0 (vp_in_nI (n := i2) (N := 6) (by omega) (by omega))) rfl dX1_giveRow_28 (fun H locs hP hD hS => ?_)
        have hP : va_P g.1 vwCl (ck g q (s_X1_giveRow_28 p0 i2 w2_0)) H := (congrArg (fun z => va_P g.1 vwCl z H) (ck_A2 g q w2_0 (upd (w2_0.2 2) ((p0 * (6 : Int32)) + (nI i2)).toNatClampNeg (0 : Int32)))).mp hP
        have hD : va_D A (ck g q (s_X1_giveRow_28 p0 i2 w2_0)) := (congrArg (fun z => va_D A z) (ck_A2 g q w2_0 (upd (w2_0.2 2) ((p0 * (6 : Int32)) + (nI i2)).toNatClampNeg (0 : Int32)))).mp hD
        refine lv_iinc (v := (nI (i2 + 1))) (lv' := [(3, .int (nI (i2 + 1))), (0, .ref (q 2)), (1, .int p0), (2, .int p1)]) hx hb dX1_giveRow_29 hl (k := 0) rfl (nI_1 i2) (by decide) rfl (fun ls hl => ?_)
        refine lv_goto (tgt := 2) hx hb dX1_giveRow_32 (by decide) ?_
        have E : (f_X1_giveRow_L2 p0 (n2 + 1) i2 w2_0) = (f_X1_giveRow_L2 p0 n2 (i2 + 1) (s_X1_giveRow_28 p0 i2 w2_0)) := (if_pos c_14).trans rfl
        rw [E] at kx
        exact ih2 (i2 + 1) (by omega) (s_X1_giveRow_28 p0 i2 w2_0) _ _ _  hP hD hS (lv_sub hl [0, 1, 2, 3] rfl) kx
  refine L2 6 0 (by omega) v _ _ _  hP hD hS (lv_sub hl [0, 1, 2, 3] rfl) (fun H locs ls hP hD hS hl => ?_)
  refine lv_aload_n hx hb dX1_giveRow_35 rfl (lv_at hl 0 rfl) ?_
  refine va_get (D := g.1) (ci := 1) (v := .ref (q 3)) (C := RX1) (T := TX1) (N := 4) hx hb hts (zin_X1_giveRow_X1) hown hK hP 2 rfl rfl 0 (by decide) (hts (.fieldLink RX1 9 "PegClerks$Drum" "rows" "[I") (by decide +kernel)) (fun _ h9 => h9) rfl dX1_giveRow_36 ?_
  refine lv_iload_n hx hb dX1_giveRow_39 rfl (lv_at hl 1 rfl) ?_
  refine lv_iload_n hx hb dX1_giveRow_40 rfl (lv_at hl 2 rfl) ?_
  refine z_iast (f := ((f_X1_giveRow_L2 p0 6 0 v).2 1)) (k := p0.toNatClampNeg) hx hb hK hP hD hS 3 0 rfl rfl h0 rfl dX1_giveRow_41 (fun H locs hP hD hS => ?_)
  have hP : va_P g.1 vwCl (ck g q (s_X1_giveRow_41 v p0 p1)) H := (congrArg (fun z => va_P g.1 vwCl z H) (ck_A1 g q (f_X1_giveRow_L2 p0 6 0 v) (upd ((f_X1_giveRow_L2 p0 6 0 v).2 1) p0.toNatClampNeg p1))).mp hP
  have hD : va_D A (ck g q (s_X1_giveRow_41 v p0 p1)) := (congrArg (fun z => va_D A z) (ck_A1 g q (f_X1_giveRow_L2 p0 6 0 v) (upd ((f_X1_giveRow_L2 p0 6 0 v).2 1) p0.toNatClampNeg p1))).mp hD
  have E : (f_X1_giveRow v p0 p1) = (s_X1_giveRow_41 v p0 p1) := rfl
  exact hret _ _ _ _ _ dX1_giveRow_42 (congrArg (fun z => (ck g q z)) E).symm hP hD hS
abbrev rm_X4_leavesMark : Room := { frames := 0, cells := 0, slots := 0, locals := 0 }
set_option maxRecDepth 20000 in
theorem zin_X4_leavesMark_X4 : ∀ w ∈ wsX40, w ∈ wsX4_leavesMark := by decide +kernel
def s_X4_leavesMark_31 (v : zCV) (p0 : Int32) (p1 : Int32) : zCV := zA v 3 (upd (v.2 3) p0.toNatClampNeg (((v.2 3) p0.toNatClampNeg) - p1))
def s_X4_leavesMark_41 (v : zCV) (p0 : Int32) (p1 : Int32) : zCV := zA (s_X4_leavesMark_31 v p0 p1) 4 (upd ((s_X4_leavesMark_31 v p0 p1).2 4) p0.toNatClampNeg ((((s_X4_leavesMark_31 v p0 p1).2 4) p0.toNatClampNeg) + (1 : Int32)))
def s_X4_leavesMark_19 (v : zCV) (p0 : Int32) : zCV := zA v 5 (upd (v.2 5) p0.toNatClampNeg (((v.2 5) p0.toNatClampNeg) + (1 : Int32)))
def f_X4_leavesMark (v : zCV) (p0 : Int32) (p1 : Int32) : Int32 × zCV := if p1 ≤ ((v.2 3) p0.toNatClampNeg) then (((1 : Int32), (s_X4_leavesMark_41 v p0 p1))) else (((0 : Int32), (s_X4_leavesMark_19 v p0)))
set_option maxRecDepth 100000 in
set_option maxHeartbeats 4000000 in
theorem m_X4_leavesMark (l : Launch) (g : zG) (q : Nat → Nat) (v : zCV) (p0 : Int32) (p1 : Int32) (h0 : vp_in p0 6) : ZI l yX4_leavesMark wsX4_leavesMark rm_X4_leavesMark g (ck g q v) [.ref (q 5), .int p0, .int p1] (f_X4_leavesMark v p0 p1).1 (ck g q (f_X4_leavesMark v p0 p1).2) := by
  refine zopenI (cc := cX4_leavesMark) (maxL := 3) (ret := .boolean) (by decide +kernel) rfl (Nat.le_of_ble_eq_true rfl) ?_
  intro p e s m below meth c A Q ls hx hb hml hown hts hP hK hD hA hN hl hret
  have hS : va_S A s.heap s.heap [] := va_S.rf
  have hl : lv_has ls 3 [(0, .ref (q 5)), (1, .int p0), (2, .int p1)] := hl
  have hown : s.vm.findClass RX4 = some m.cls := hown
  refine lv_aload_n hx hb dX4_leavesMark_0 rfl (lv_at hl 0 rfl) ?_
  refine va_get (D := g.1) (ci := 4) (v := .ref (q 6)) (C := RX4) (T := TX4) (N := 4) hx hb hts (zin_X4_leavesMark_X4) hown hK hP 5 rfl rfl 0 (by decide) (hts (.fieldLink RX4 9 "PegClerks$Stamps" "inks" "[I") (by decide +kernel)) (fun _ h9 => h9) rfl dX4_leavesMark_1 ?_
  refine lv_iload_n hx hb dX4_leavesMark_4 rfl (lv_at hl 1 rfl) ?_
  refine z_iald (f := (v.2 3)) (k := p0.toNatClampNeg) hx hb hK hP 6 0 rfl rfl h0 rfl dX4_leavesMark_5 ?_
  refine lv_iload_n hx hb dX4_leavesMark_6 rfl (lv_at hl 2 rfl) ?_
  refine lv_icmp_ge (tgt := 22) hx hb dX4_leavesMark_7 (by decide) (fun c_7 => ?_) (fun c_7 => ?_)
  · refine lv_aload_n hx hb dX4_leavesMark_22 rfl (lv_at hl 0 rfl) ?_
    refine va_get (D := g.1) (ci := 4) (v := .ref (q 6)) (C := RX4) (T := TX4) (N := 4) hx hb hts (zin_X4_leavesMark_X4) hown hK hP 5 rfl rfl 0 (by decide) (hts (.fieldLink RX4 9 "PegClerks$Stamps" "inks" "[I") (by decide +kernel)) (fun _ h9 => h9) rfl dX4_leavesMark_23 ?_
    refine lv_iload_n hx hb dX4_leavesMark_26 rfl (lv_at hl 1 rfl) ?_
    refine lv_dup2_11 hx hb dX4_leavesMark_27 rfl rfl ?_
    refine z_iald (f := (v.2 3)) (k := p0.toNatClampNeg) hx hb hK hP 6 0 rfl rfl h0 rfl dX4_leavesMark_28 ?_
    refine lv_iload_n hx hb dX4_leavesMark_29 rfl (lv_at hl 2 rfl) ?_
    refine lv_isub hx hb dX4_leavesMark_30 ?_
    refine z_iast (f := (v.2 3)) (k := p0.toNatClampNeg) hx hb hK hP hD hS 6 0 rfl rfl h0 rfl dX4_leavesMark_31 (fun H locs hP hD hS => ?_)
    have hP : va_P g.1 vwCl (ck g q (s_X4_leavesMark_31 v p0 p1)) H := (congrArg (fun z => va_P g.1 vwCl z H) (ck_A3 g q v (upd (v.2 3) p0.toNatClampNeg (((v.2 3) p0.toNatClampNeg) - p1)))).mp hP
    have hD : va_D A (ck g q (s_X4_leavesMark_31 v p0 p1)) := (congrArg (fun z => va_D A z) (ck_A3 g q v (upd (v.2 3) p0.toNatClampNeg (((v.2 3) p0.toNatClampNeg) - p1)))).mp hD
    refine lv_aload_n hx hb dX4_leavesMark_32 rfl (lv_at hl 0 rfl) ?_
    refine va_get (D := g.1) (ci := 4) (v := .ref (q 7)) (C := RX4) (T := TX4) (N := 4) hx hb hts (zin_X4_leavesMark_X4) hown hK hP 5 rfl rfl 1 (by decide) (hts (.fieldLink RX4 15 "PegClerks$Stamps" "marks" "[I") (by decide +kernel)) (fun _ h9 => h9) rfl dX4_leavesMark_33 ?_
    refine lv_iload_n hx hb dX4_leavesMark_36 rfl (lv_at hl 1 rfl) ?_
    refine lv_dup2_11 hx hb dX4_leavesMark_37 rfl rfl ?_
    refine z_iald (f := ((s_X4_leavesMark_31 v p0 p1).2 4)) (k := p0.toNatClampNeg) hx hb hK hP 7 0 rfl rfl h0 rfl dX4_leavesMark_38 ?_
    refine lv_iconst (v := (1 : Int32)) hx hb dX4_leavesMark_39 (by decide) ?_
    refine lv_iadd hx hb dX4_leavesMark_40 ?_
    refine z_iast (f := ((s_X4_leavesMark_31 v p0 p1).2 4)) (k := p0.toNatClampNeg) hx hb hK hP hD hS 7 0 rfl rfl h0 rfl dX4_leavesMark_41 (fun H locs hP hD hS => ?_)
    have hP : va_P g.1 vwCl (ck g q (s_X4_leavesMark_41 v p0 p1)) H := (congrArg (fun z => va_P g.1 vwCl z H) (ck_A4 g q (s_X4_leavesMark_31 v p0 p1) (upd ((s_X4_leavesMark_31 v p0 p1).2 4) p0.toNatClampNeg ((((s_X4_leavesMark_31 v p0 p1).2 4) p0.toNatClampNeg) + (1 : Int32))))).mp hP
    have hD : va_D A (ck g q (s_X4_leavesMark_41 v p0 p1)) := (congrArg (fun z => va_D A z) (ck_A4 g q (s_X4_leavesMark_31 v p0 p1) (upd ((s_X4_leavesMark_31 v p0 p1).2 4) p0.toNatClampNeg ((((s_X4_leavesMark_31 v p0 p1).2 4) p0.toNatClampNeg) + (1 : Int32))))).mp hD
    refine lv_iconst (v := (1 : Int32)) hx hb dX4_leavesMark_42 (by decide) ?_
    have E : (f_X4_leavesMark v p0 p1) = ((1 : Int32), (s_X4_leavesMark_41 v p0 p1)) := (if_pos c_7).trans rfl
    exact hret _ _ _ _ _ _ dX4_leavesMark_43 (congrArg Prod.fst E).symm (rfl) (congrArg (fun z => (ck g q z.2)) E).symm hP hD hS
  · refine lv_aload_n hx hb dX4_leavesMark_10 rfl (lv_at hl 0 rfl) ?_
    refine va_get (D := g.1) (ci := 4) (v := .ref (q 8)) (C := RX4) (T := TX4) (N := 4) hx hb hts (zin_X4_leavesMark_X4) hown hK hP 5 rfl rfl 2 (by decide) (hts (.fieldLink RX4 18 "PegClerks$Stamps" "dryFalls" "[I") (by decide +kernel)) (fun _ h9 => h9) rfl dX4_leavesMark_11 ?_
    refine lv_iload_n hx hb dX4_leavesMark_14 rfl (lv_at hl 1 rfl) ?_
    refine lv_dup2_11 hx hb dX4_leavesMark_15 rfl rfl ?_
    refine z_iald (f := (v.2 5)) (k := p0.toNatClampNeg) hx hb hK hP 8 0 rfl rfl h0 rfl dX4_leavesMark_16 ?_
    refine lv_iconst (v := (1 : Int32)) hx hb dX4_leavesMark_17 (by decide) ?_
    refine lv_iadd hx hb dX4_leavesMark_18 ?_
    refine z_iast (f := (v.2 5)) (k := p0.toNatClampNeg) hx hb hK hP hD hS 8 0 rfl rfl h0 rfl dX4_leavesMark_19 (fun H locs hP hD hS => ?_)
    have hP : va_P g.1 vwCl (ck g q (s_X4_leavesMark_19 v p0)) H := (congrArg (fun z => va_P g.1 vwCl z H) (ck_A5 g q v (upd (v.2 5) p0.toNatClampNeg (((v.2 5) p0.toNatClampNeg) + (1 : Int32))))).mp hP
    have hD : va_D A (ck g q (s_X4_leavesMark_19 v p0)) := (congrArg (fun z => va_D A z) (ck_A5 g q v (upd (v.2 5) p0.toNatClampNeg (((v.2 5) p0.toNatClampNeg) + (1 : Int32))))).mp hD
    refine lv_iconst (v := (0 : Int32)) hx hb dX4_leavesMark_20 (by decide) ?_
    have E : (f_X4_leavesMark v p0 p1) = ((0 : Int32), (s_X4_leavesMark_19 v p0)) := (if_neg c_7).trans rfl
    exact hret _ _ _ _ _ _ dX4_leavesMark_21 (congrArg Prod.fst E).symm (rfl) (congrArg (fun z => (ck g q z.2)) E).symm hP hD hS
abbrev rm_X4_allMarks : Room := { frames := 0, cells := 0, slots := 0, locals := 0 }
set_option maxRecDepth 20000 in
theorem zin_X4_allMarks_X4 : ∀ w ∈ wsX40, w ∈ wsX4_allMarks := by decide +kernel
def f_X4_allMarks_L4 (v : zCV) : Nat → Nat → Int32 → Int32
  | 0, i4, x4_1 => x4_1
  | n4 + 1, i4, x4_1 => (f_X4_allMarks_L4 v n4 (i4 + 1) (x4_1 + ((v.2 4) (nI i4).toNatClampNeg)))
def f_X4_allMarks (v : zCV) : Int32 := (f_X4_allMarks_L4 v 6 0 (0 : Int32))
set_option maxRecDepth 100000 in
set_option maxHeartbeats 4000000 in
theorem m_X4_allMarks (l : Launch) (g : zG) (q : Nat → Nat) (v : zCV) : ZI l yX4_allMarks wsX4_allMarks rm_X4_allMarks g (ck g q v) [.ref (q 5)] (f_X4_allMarks v) (ck g q v) := by
  refine zopenI (cc := cX4_allMarks) (maxL := 3) (ret := .int) (by decide +kernel) rfl (Nat.le_of_ble_eq_true rfl) ?_
  intro p e s m below meth c A Q ls hx hb hml hown hts hP hK hD hA hN hl hret
  have hS : va_S A s.heap s.heap [] := va_S.rf
  have hl : lv_has ls 3 [(0, .ref (q 5))] := hl
  have hown : s.vm.findClass RX4 = some m.cls := hown
  refine lv_iconst (v := (0 : Int32)) hx hb dX4_allMarks_0 (by decide) ?_
  refine lv_istore_n (lv' := [(1, .int (0 : Int32)), (0, .ref (q 5))]) hx hb dX4_allMarks_1 rfl hl (by decide) rfl (fun ls hl => ?_)
  refine lv_iconst (v := (0 : Int32)) hx hb dX4_allMarks_2 (by decide) ?_
  refine lv_istore_n (lv' := [(2, .int (0 : Int32)), (1, .int (0 : Int32)), (0, .ref (q 5))]) hx hb dX4_allMarks_3 rfl hl (by decide) rfl (fun ls hl => ?_)
  have L4 : ∀ (n4 : Nat) (i4 : Nat), i4 + n4 = 6 → ∀ (x4_1 : Int32) (H : Heap) (locs : List Loc) (ls : Array Slot), va_P g.1 vwCl (ck g q v) H → va_D A (ck g q v) → va_S A s.heap H locs → lv_has ls 3 [(2, .int (nI i4)), (1, .int x4_1), (0, .ref (q 5))] → (∀ (H : Heap) (locs : List Loc) (ls : Array Slot), va_P g.1 vwCl (ck g q v) H → va_D A (ck g q v) → va_S A s.heap H locs → lv_has ls 3 [(1, .int (f_X4_allMarks_L4 v n4 i4 x4_1)), (0, .ref (q 5))] → W p l e rm_X4_allMarks s m ([.ref (q 5)] : List Value).toArray below meth c H locs 0 0 Q (F0 m 25 ls [])) → W p l e rm_X4_allMarks s m ([.ref (q 5)] : List Value).toArray below meth c H locs 0 0 Q (F0 m 4 ls []) := by
    intro n4
    induction n4 with
    | zero =>
      intro i4 hin4 x4_1 H locs ls hP hD hS hl kx
      refine lv_iload_n hx hb dX4_allMarks_4 rfl (lv_at hl 0 rfl) ?_
      refine lv_bipush (v := (6 : Int32)) hx hb dX4_allMarks_5 (by decide) ?_
      refine lv_icmp_ge (tgt := 25) hx hb dX4_allMarks_7 (by decide) (fun c_7 => ?_) (fun c_7 => ?_)
      rotate_left
      · exact absurd (by rw [show i4 = 6 by omega]; decide) c_7
      have E : (f_X4_allMarks_L4 v 0 i4 x4_1) = x4_1 := rfl
      rw [E] at kx
      exact kx _ _ _ hP hD hS (lv_sub hl [1, 2] rfl)
    | succ n4 ih4 =>
      intro i4 hin4 x4_1 H locs ls hP hD hS hl kx
      refine lv_iload_n hx hb dX4_allMarks_4 rfl (lv_at hl 0 rfl) ?_
      refine lv_bipush (v := (6 : Int32)) hx hb dX4_allMarks_5 (by decide) ?_
      refine lv_icmp_ge (tgt := 25) hx hb dX4_allMarks_7 (by decide) (fun c_7 => ?_) (fun c_7 => ?_)
      · exact absurd c_7 (nI_ge (a := i4) (b := 6) (by omega) (by omega))
      refine lv_iload_n hx hb dX4_allMarks_10 rfl (lv_at hl 1 rfl) ?_
      refine lv_aload_n hx hb dX4_allMarks_11 rfl (lv_at hl 2 rfl) ?_
      refine va_get (D := g.1) (ci := 4) (v := .ref (q 7)) (C := RX4) (T := TX4) (N := 4) hx hb hts (zin_X4_allMarks_X4) hown hK hP 5 rfl rfl 1 (by decide) (hts (.fieldLink RX4 15 "PegClerks$Stamps" "marks" "[I") (by decide +kernel)) (fun _ h9 => h9) rfl dX4_allMarks_12 ?_
      refine lv_iload_n hx hb dX4_allMarks_15 rfl (lv_at hl 0 rfl) ?_
      refine z_iald (f := (v.2 4)) (k := (nI i4).toNatClampNeg) hx hb hK hP 7 0 rfl rfl (vp_in_nI (by omega) (by omega)) rfl dX4_allMarks_16 ?_
      refine lv_iadd hx hb dX4_allMarks_17 ?_
      refine lv_istore_n (lv' := [(1, .int (x4_1 + ((v.2 4) (nI i4).toNatClampNeg))), (2, .int (nI i4)), (0, .ref (q 5))]) hx hb dX4_allMarks_18 rfl hl (by decide) rfl (fun ls hl => ?_)
      refine lv_iinc (v := (nI (i4 + 1))) (lv' := [(2, .int (nI (i4 + 1))), (1, .int (x4_1 + ((v.2 4) (nI i4).toNatClampNeg))), (0, .ref (q 5))]) hx hb dX4_allMarks_19 hl (k := 1) rfl (nI_1 i4) (by decide) rfl (fun ls hl => ?_)
      refine lv_goto (tgt := 4) hx hb dX4_allMarks_22 (by decide) ?_
      have E : (f_X4_allMarks_L4 v (n4 + 1) i4 x4_1) = (f_X4_allMarks_L4 v n4 (i4 + 1) (x4_1 + ((v.2 4) (nI i4).toNatClampNeg))) := rfl
      rw [E] at kx
      exact ih4 (i4 + 1) (by omega) (x4_1 + ((v.2 4) (nI i4).toNatClampNeg)) _ _ _  hP hD hS (lv_sub hl [0, 1, 2] rfl) kx
  refine L4 6 0 (by omega) (0 : Int32) _ _ _  hP hD hS (lv_sub hl [0, 1, 2] rfl) (fun H locs ls hP hD hS hl => ?_)
  refine lv_iload_n hx hb dX4_allMarks_25 rfl (lv_at hl 0 rfl) ?_
  have E : (f_X4_allMarks v) = (f_X4_allMarks_L4 v 6 0 (0 : Int32)) := rfl
  exact hret _ _ _ _ _ _ dX4_allMarks_26 E.symm (rfl) rfl hP hD hS
end
section
abbrev rm_X1_wearPeg : Room := { frames := 0, cells := 0, slots := 0, locals := 0 }
set_option maxRecDepth 20000 in
theorem zin_X1_wearPeg_X1 : ∀ w ∈ wsX10, w ∈ wsX1_wearPeg := by decide +kernel
def s_X1_wearPeg_18 (v : zCV) (p0 : Int32) (p1 : Int32) : zCV := zA v 2 (upd (v.2 2) ((p0 * (6 : Int32)) + p1).toNatClampNeg (((v.2 2) ((p0 * (6 : Int32)) + p1).toNatClampNeg) + (1 : Int32)))
def s_X1_wearPeg_47 (v : zCV) (p0 : Int32) (p1 : Int32) : zCV := zA (s_X1_wearPeg_18 v p0 p1) 1 (upd ((s_X1_wearPeg_18 v p0 p1).2 1) p0.toNatClampNeg ((((s_X1_wearPeg_18 v p0 p1).2 1) p0.toNatClampNeg) &&& (((1 : Int32) <<< (p1 &&& 31)) ^^^ (-1 : Int32))))
def s_X1_wearPeg_55 (v : zCV) (p0 : Int32) (p1 : Int32) : zCV := zS (s_X1_wearPeg_47 v p0 p1) 15 (((s_X1_wearPeg_47 v p0 p1).1 15) + (1 : Int32))
def f_X1_wearPeg (v : zCV) (p0 : Int32) (p1 : Int32) (p2 : Int32) : zCV := if p2 = (0 : Int32) then ((s_X1_wearPeg_18 v p0 p1)) else (if (((s_X1_wearPeg_18 v p0 p1).2 2) ((p0 * (6 : Int32)) + p1).toNatClampNeg) < p2 then ((s_X1_wearPeg_18 v p0 p1)) else ((s_X1_wearPeg_55 v p0 p1)))
set_option maxRecDepth 100000 in
set_option maxHeartbeats 4000000 in
theorem m_X1_wearPeg (l : Launch) (g : zG) (q : Nat → Nat) (v : zCV) (p0 : Int32) (p1 : Int32) (p2 : Int32) (h0 : vp_in p0 16) (h1 : vp_in p1 6) : ZV l yX1_wearPeg wsX1_wearPeg rm_X1_wearPeg g (ck g q v) [.ref (q 2), .int p0, .int p1, .int p2] (ck g q (f_X1_wearPeg v p0 p1 p2)) := by
  refine zopenV (cc := cX1_wearPeg) (maxL := 5) (by decide +kernel) rfl (Nat.le_of_ble_eq_true rfl) ?_
  intro p e s m below meth c A Q ls hx hb hml hown hts hP hK hD hA hN hl hret
  have hS : va_S A s.heap s.heap [] := va_S.rf
  have hl : lv_has ls 5 [(0, .ref (q 2)), (1, .int p0), (2, .int p1), (3, .int p2)] := hl
  have hown : s.vm.findClass RX1 = some m.cls := hown
  refine lv_iload_n hx hb dX1_wearPeg_0 rfl (lv_at hl 1 rfl) ?_
  refine lv_bipush (v := (6 : Int32)) hx hb dX1_wearPeg_1 (by decide) ?_
  refine lv_imul hx hb dX1_wearPeg_3 ?_
  refine lv_iload_n hx hb dX1_wearPeg_4 rfl (lv_at hl 2 rfl) ?_
  refine lv_iadd hx hb dX1_wearPeg_5 ?_
  refine lv_istore (lv' := [(4, .int ((p0 * (6 : Int32)) + p1)), (0, .ref (q 2)), (1, .int p0), (2, .int p1), (3, .int p2)]) hx hb dX1_wearPeg_6 hl (by decide) rfl (fun ls hl => ?_)
  refine lv_aload_n hx hb dX1_wearPeg_8 rfl (lv_at hl 1 rfl) ?_
  refine va_get (D := g.1) (ci := 1) (v := .ref (q 4)) (C := RX1) (T := TX1) (N := 4) hx hb hts (zin_X1_wearPeg_X1) hown hK hP 2 rfl rfl 1 (by decide) (hts (.fieldLink RX1 15 "PegClerks$Drum" "stampings" "[I") (by decide +kernel)) (fun _ h9 => h9) rfl dX1_wearPeg_9 ?_
  refine lv_iload hx hb dX1_wearPeg_12 (lv_at hl 0 rfl) ?_
  refine lv_dup2_11 hx hb dX1_wearPeg_14 rfl rfl ?_
  refine z_iald (f := (v.2 2)) (k := ((p0 * (6 : Int32)) + p1).toNatClampNeg) hx hb hK hP 4 0 rfl rfl (zin_rp h0 h1) rfl dX1_wearPeg_15 ?_
  refine lv_iconst (v := (1 : Int32)) hx hb dX1_wearPeg_16 (by decide) ?_
  refine lv_iadd hx hb dX1_wearPeg_17 ?_
  refine z_iast (f := (v.2 2)) (k := ((p0 * (6 : Int32)) + p1).toNatClampNeg) hx hb hK hP hD hS 4 0 rfl rfl (zin_rp h0 h1) rfl dX1_wearPeg_18 (fun H locs hP hD hS => ?_)
  have hP : va_P g.1 vwCl (ck g q (s_X1_wearPeg_18 v p0 p1)) H := (congrArg (fun z => va_P g.1 vwCl z H) (ck_A2 g q v (upd (v.2 2) ((p0 * (6 : Int32)) + p1).toNatClampNeg (((v.2 2) ((p0 * (6 : Int32)) + p1).toNatClampNeg) + (1 : Int32))))).mp hP
  have hD : va_D A (ck g q (s_X1_wearPeg_18 v p0 p1)) := (congrArg (fun z => va_D A z) (ck_A2 g q v (upd (v.2 2) ((p0 * (6 : Int32)) + p1).toNatClampNeg (((v.2 2) ((p0 * (6 : Int32)) + p1).toNatClampNeg) + (1 : Int32))))).mp hD
  refine lv_iload_n hx hb dX1_wearPeg_19 rfl (lv_at hl 4 rfl) ?_
  refine lv_if_eq (tgt := 58) hx hb dX1_wearPeg_20 (by decide) (fun c_20 => ?_) (fun c_20 => ?_)
  · have E : (f_X1_wearPeg v p0 p1 p2) = (s_X1_wearPeg_18 v p0 p1) := (if_pos c_20).trans rfl
    exact hret _ _ _ _ _ dX1_wearPeg_58 (congrArg (fun z => (ck g q z)) E).symm hP hD hS
  · refine lv_aload_n hx hb dX1_wearPeg_23 rfl (lv_at hl 1 rfl) ?_
    refine va_get (D := g.1) (ci := 1) (v := .ref (q 4)) (C := RX1) (T := TX1) (N := 4) hx hb hts (zin_X1_wearPeg_X1) hown hK hP 2 rfl rfl 1 (by decide) (hts (.fieldLink RX1 15 "PegClerks$Drum" "stampings" "[I") (by decide +kernel)) (fun _ h9 => h9) rfl dX1_wearPeg_24 ?_
    refine lv_iload hx hb dX1_wearPeg_27 (lv_at hl 0 rfl) ?_
    refine z_iald (f := ((s_X1_wearPeg_18 v p0 p1).2 2)) (k := ((p0 * (6 : Int32)) + p1).toNatClampNeg) hx hb hK hP 4 0 rfl rfl (zin_rp h0 h1) rfl dX1_wearPeg_29 ?_
    refine lv_iload_n hx hb dX1_wearPeg_30 rfl (lv_at hl 4 rfl) ?_
    refine lv_icmp_lt (tgt := 58) hx hb dX1_wearPeg_31 (by decide) (fun c_31 => ?_) (fun c_31 => ?_)
    · have E : (f_X1_wearPeg v p0 p1 p2) = (s_X1_wearPeg_18 v p0 p1) := (if_neg c_20).trans ((if_pos c_31).trans rfl)
      exact hret _ _ _ _ _ dX1_wearPeg_58 (congrArg (fun z => (ck g q z)) E).symm hP hD hS
    · refine lv_aload_n hx hb dX1_wearPeg_34 rfl (lv_at hl 1 rfl) ?_
      refine va_get (D := g.1) (ci := 1) (v := .ref (q 3)) (C := RX1) (T := TX1) (N := 4) hx hb hts (zin_X1_wearPeg_X1) hown hK hP 2 rfl rfl 0 (by decide) (hts (.fieldLink RX1 9 "PegClerks$Drum" "rows" "[I") (by decide +kernel)) (fun _ h9 => h9) rfl dX1_wearPeg_35 ?_
      refine lv_iload_n hx hb dX1_wearPeg_38 rfl (lv_at hl 2 rfl) ?_
      refine lv_dup2_11 hx hb dX1_wearPeg_39 rfl rfl ?_
      refine z_iald (f := ((s_X1_wearPeg_18 v p0 p1).2 1)) (k := p0.toNatClampNeg) hx hb hK hP 3 0 rfl rfl h0 rfl dX1_wearPeg_40 ?_
      refine lv_iconst (v := (1 : Int32)) hx hb dX1_wearPeg_41 (by decide) ?_
      refine lv_iload_n hx hb dX1_wearPeg_42 rfl (lv_at hl 3 rfl) ?_
      refine lv_ishl hx hb dX1_wearPeg_43 ?_
      refine lv_iconst (v := (-1 : Int32)) hx hb dX1_wearPeg_44 (by decide) ?_
      refine lv_ixor hx hb dX1_wearPeg_45 ?_
      refine lv_iand hx hb dX1_wearPeg_46 ?_
      refine z_iast (f := ((s_X1_wearPeg_18 v p0 p1).2 1)) (k := p0.toNatClampNeg) hx hb hK hP hD hS 3 0 rfl rfl h0 rfl dX1_wearPeg_47 (fun H locs hP hD hS => ?_)
      have hP : va_P g.1 vwCl (ck g q (s_X1_wearPeg_47 v p0 p1)) H := (congrArg (fun z => va_P g.1 vwCl z H) (ck_A1 g q (s_X1_wearPeg_18 v p0 p1) (upd ((s_X1_wearPeg_18 v p0 p1).2 1) p0.toNatClampNeg ((((s_X1_wearPeg_18 v p0 p1).2 1) p0.toNatClampNeg) &&& (((1 : Int32) <<< (p1 &&& 31)) ^^^ (-1 : Int32)))))).mp hP
      have hD : va_D A (ck g q (s_X1_wearPeg_47 v p0 p1)) := (congrArg (fun z => va_D A z) (ck_A1 g q (s_X1_wearPeg_18 v p0 p1) (upd ((s_X1_wearPeg_18 v p0 p1).2 1) p0.toNatClampNeg ((((s_X1_wearPeg_18 v p0 p1).2 1) p0.toNatClampNeg) &&& (((1 : Int32) <<< (p1 &&& 31)) ^^^ (-1 : Int32)))))).mp hD
      refine lv_aload_n hx hb dX1_wearPeg_48 rfl (lv_at hl 1 rfl) ?_
      refine lv_dup hx hb dX1_wearPeg_49 rfl ?_
      refine va_get (D := g.1) (ci := 1) (v := .int ((s_X1_wearPeg_47 v p0 p1).1 15)) (C := RX1) (T := TX1) (N := 4) hx hb hts (zin_X1_wearPeg_X1) hown hK hP 2 rfl rfl 3 (by decide) (hts (.fieldLink RX1 28 "PegClerks$Drum" "fallenOut" "I") (by decide +kernel)) (fun _ h9 => h9) rfl dX1_wearPeg_50 ?_
      refine lv_iconst (v := (1 : Int32)) hx hb dX1_wearPeg_53 (by decide) ?_
      refine lv_iadd hx hb dX1_wearPeg_54 ?_
      refine va_put (D := g.1) (ci := 1) (v := .int (((s_X1_wearPeg_47 v p0 p1).1 15) + (1 : Int32))) (ty := .int) (C := RX1) (T := TX1) (N := 4) hx hb hts (zin_X1_wearPeg_X1) tyX1 tyX1_ok nmX1 hown hK hP hD hS 2 rfl rfl 3 (by decide) (hts (.fieldLink RX1 28 "PegClerks$Drum" "fallenOut" "I") (by decide +kernel)) (fun _ h9 => h9) rfl (by decide +kernel) rfl rfl (Nat.le_of_ble_eq_true rfl) dX1_wearPeg_55 (fun H locs hP hD hS => ?_)
      have hP : va_P g.1 vwCl (ck g q (s_X1_wearPeg_55 v p0 p1)) H := (congrArg (fun z => va_P g.1 vwCl z H) (ck_S15 g q (s_X1_wearPeg_47 v p0 p1) (((s_X1_wearPeg_47 v p0 p1).1 15) + (1 : Int32)))).mp hP
      have hD : va_D A (ck g q (s_X1_wearPeg_55 v p0 p1)) := (congrArg (fun z => va_D A z) (ck_S15 g q (s_X1_wearPeg_47 v p0 p1) (((s_X1_wearPeg_47 v p0 p1).1 15) + (1 : Int32)))).mp hD
      have E : (f_X1_wearPeg v p0 p1 p2) = (s_X1_wearPeg_55 v p0 p1) := (if_neg c_20).trans ((if_neg c_31).trans rfl)
      exact hret _ _ _ _ _ dX1_wearPeg_58 (congrArg (fun z => (ck g q z)) E).symm hP hD hS
end
section
abbrev rm_X0_wouldJamAt : Room := { frames := 2, cells := 0, slots := 0, locals := 41 }
set_option maxRecDepth 20000 in
theorem zin_X0_wouldJamAt_X0 : ∀ w ∈ wsX00, w ∈ wsX0_wouldJamAt := by decide +kernel
def r_X0_wouldJamAt_5 (v : zCV) (p0 : Int32) : Int32 := (f_X1_pegsInRow v p0)
def f_X0_wouldJamAt (v : zCV) (p0 : Int32) : Int32 := if (r_X0_wouldJamAt_5 v p0) ≤ ((v.2 0) 3) then ((0 : Int32)) else ((1 : Int32))
set_option maxRecDepth 100000 in
set_option maxHeartbeats 4000000 in
theorem m_X0_wouldJamAt (l : Launch) (g : zG) (q : Nat → Nat) (v : zCV) (p0 : Int32) (h0 : vp_in p0 16) : ZI l yX0_wouldJamAt wsX0_wouldJamAt rm_X0_wouldJamAt g (ck g q v) [.ref (q 0), .int p0] (f_X0_wouldJamAt v p0) (ck g q v) := by
  refine zopenI (cc := cX0_wouldJamAt) (maxL := 2) (ret := .boolean) (by decide +kernel) rfl (Nat.le_of_ble_eq_true rfl) ?_
  intro p e s m below meth c A Q ls hx hb hml hown hts hP hK hD hA hN hl hret
  have hS : va_S A s.heap s.heap [] := va_S.rf
  have hl : lv_has ls 2 [(0, .ref (q 0)), (1, .int p0)] := hl
  have hown : s.vm.findClass RX0 = some m.cls := hown
  refine lv_aload_n hx hb dX0_wouldJamAt_0 rfl (lv_at hl 0 rfl) ?_
  refine va_get (D := g.1) (ci := 0) (v := .ref (q 2)) (C := RX0) (T := TX0) (N := 13) hx hb hts (zin_X0_wouldJamAt_X0) hown hK hP 0 rfl rfl 1 (by decide) (hts (.fieldLink RX0 18 "PegClerks$Clerk" "drum" "LPegClerks$Drum;") (by decide +kernel)) (fun _ h9 => h9) rfl dX0_wouldJamAt_1 ?_
  refine lv_iload_n hx hb dX0_wouldJamAt_4 rfl (lv_at hl 1 rfl) ?_
  refine zcVi (n := 1) (As := [.int p0]) (rest := []) (Xr := []) (Xn := (ck g q v)) (ci := 1) (C := RX1) (T := TX1) (N := 4) (q0 := 2) hx hb hml hown hts hN (m_X1_pegsInRow l g q v p0 h0) gX0_wouldJamAt_X1_pegsInRow rfl (by decide +kernel) ⟨rfl, rfl⟩ ⟨Nat.le_of_ble_eq_true rfl, Nat.le_of_ble_eq_true rfl⟩ hK hP hD hS hA (zpn _) rfl rfl rfl hl.1 rfl (Nat.le_of_ble_eq_true rfl) dX0_wouldJamAt_5 ⟨Nat.zero_le _, Nat.zero_le _⟩ (zpn' _) (fun H locs hP hD hS => ?_)
  refine lv_aload_n hx hb dX0_wouldJamAt_8 rfl (lv_at hl 0 rfl) ?_
  refine va_get (D := g.1) (ci := 0) (v := .ref (q 1)) (C := RX0) (T := TX0) (N := 13) hx hb hts (zin_X0_wouldJamAt_X0) hown hK hP 0 rfl rfl 0 (by decide) (hts (.fieldLink RX0 9 "PegClerks$Clerk" "settings" "[I") (by decide +kernel)) (fun _ h9 => h9) rfl dX0_wouldJamAt_9 ?_
  refine lv_iconst (v := (3 : Int32)) hx hb dX0_wouldJamAt_12 (by decide) ?_
  refine z_iald (f := (v.2 0)) (k := 3) hx hb hK hP 1 0 rfl rfl (zlit (3 : Int32) 4 (by decide +kernel)) (by decide +kernel) dX0_wouldJamAt_13 ?_
  refine lv_icmp_le (tgt := 21) hx hb dX0_wouldJamAt_14 (by decide) (fun c_14 => ?_) (fun c_14 => ?_)
  · refine lv_iconst (v := (0 : Int32)) hx hb dX0_wouldJamAt_21 (by decide) ?_
    have E : (f_X0_wouldJamAt v p0) = (0 : Int32) := (if_pos c_14).trans rfl
    exact hret _ _ _ _ _ _ dX0_wouldJamAt_22 E.symm (rfl) rfl hP hD hS
  · refine lv_iconst (v := (1 : Int32)) hx hb dX0_wouldJamAt_17 (by decide) ?_
    refine lv_goto (tgt := 22) hx hb dX0_wouldJamAt_18 (by decide) ?_
    have E : (f_X0_wouldJamAt v p0) = (1 : Int32) := (if_neg c_14).trans rfl
    exact hret _ _ _ _ _ _ dX0_wouldJamAt_22 E.symm (rfl) rfl hP hD hS
abbrev rm_X0_layForm : Room := { frames := 0, cells := 0, slots := 0, locals := 0 }
set_option maxRecDepth 20000 in
theorem zin_X0_layForm_X0 : ∀ w ∈ wsX00, w ∈ wsX0_layForm := by decide +kernel
def s_X0_layForm_2 (v : zCV) : zCV := zS v 7 (0 : Int32)
def s_X0_layForm_7 (v : zCV) : zCV := zS (s_X0_layForm_2 v) 8 (0 : Int32)
def s_X0_layForm_12 (v : zCV) : zCV := zS (s_X0_layForm_7 v) 9 (0 : Int32)
def f_X0_layForm (v : zCV) : zCV := (s_X0_layForm_12 v)
set_option maxRecDepth 100000 in
set_option maxHeartbeats 4000000 in
theorem m_X0_layForm (l : Launch) (g : zG) (q : Nat → Nat) (v : zCV) : ZV l yX0_layForm wsX0_layForm rm_X0_layForm g (ck g q v) [.ref (q 0)] (ck g q (f_X0_layForm v)) := by
  refine zopenV (cc := cX0_layForm) (maxL := 1) (by decide +kernel) rfl (Nat.le_of_ble_eq_true rfl) ?_
  intro p e s m below meth c A Q ls hx hb hml hown hts hP hK hD hA hN hl hret
  have hS : va_S A s.heap s.heap [] := va_S.rf
  have hl : lv_has ls 1 [(0, .ref (q 0))] := hl
  have hown : s.vm.findClass RX0 = some m.cls := hown
  refine lv_aload_n hx hb dX0_layForm_0 rfl (lv_at hl 0 rfl) ?_
  refine lv_iconst (v := (0 : Int32)) hx hb dX0_layForm_1 (by decide) ?_
  refine va_put (D := g.1) (ci := 0) (v := .int (0 : Int32)) (ty := .int) (C := RX0) (T := TX0) (N := 13) hx hb hts (zin_X0_layForm_X0) tyX0 tyX0_ok nmX0 hown hK hP hD hS 0 rfl rfl 5 (by decide) (hts (.fieldLink RX0 50 "PegClerks$Clerk" "formStamps" "I") (by decide +kernel)) (fun _ h9 => h9) rfl (by decide +kernel) rfl rfl (Nat.le_of_ble_eq_true rfl) dX0_layForm_2 (fun H locs hP hD hS => ?_)
  have hP : va_P g.1 vwCl (ck g q (s_X0_layForm_2 v)) H := (congrArg (fun z => va_P g.1 vwCl z H) (ck_S7 g q v (0 : Int32))).mp hP
  have hD : va_D A (ck g q (s_X0_layForm_2 v)) := (congrArg (fun z => va_D A z) (ck_S7 g q v (0 : Int32))).mp hD
  refine lv_aload_n hx hb dX0_layForm_5 rfl (lv_at hl 0 rfl) ?_
  refine lv_iconst (v := (0 : Int32)) hx hb dX0_layForm_6 (by decide) ?_
  refine va_put (D := g.1) (ci := 0) (v := .int (0 : Int32)) (ty := .boolean) (C := RX0) (T := TX0) (N := 13) hx hb hts (zin_X0_layForm_X0) tyX0 tyX0_ok nmX0 hown hK hP hD hS 0 rfl rfl 6 (by decide) (hts (.fieldLink RX0 53 "PegClerks$Clerk" "formSpoiled" "Z") (by decide +kernel)) (fun _ h9 => h9) rfl (by decide +kernel) rfl rfl (Nat.le_of_ble_eq_true rfl) dX0_layForm_7 (fun H locs hP hD hS => ?_)
  have hP : va_P g.1 vwCl (ck g q (s_X0_layForm_7 v)) H := (congrArg (fun z => va_P g.1 vwCl z H) (ck_S8 g q (s_X0_layForm_2 v) (0 : Int32))).mp hP
  have hD : va_D A (ck g q (s_X0_layForm_7 v)) := (congrArg (fun z => va_D A z) (ck_S8 g q (s_X0_layForm_2 v) (0 : Int32))).mp hD
  refine lv_aload_n hx hb dX0_layForm_10 rfl (lv_at hl 0 rfl) ?_
  refine lv_iconst (v := (0 : Int32)) hx hb dX0_layForm_11 (by decide) ?_
  refine va_put (D := g.1) (ci := 0) (v := .int (0 : Int32)) (ty := .int) (C := RX0) (T := TX0) (N := 13) hx hb hts (zin_X0_layForm_X0) tyX0 tyX0_ok nmX0 hown hK hP hD hS 0 rfl rfl 7 (by decide) (hts (.fieldLink RX0 56 "PegClerks$Clerk" "formSteps" "I") (by decide +kernel)) (fun _ h9 => h9) rfl (by decide +kernel) rfl rfl (Nat.le_of_ble_eq_true rfl) dX0_layForm_12 (fun H locs hP hD hS => ?_)
  have hP : va_P g.1 vwCl (ck g q (s_X0_layForm_12 v)) H := (congrArg (fun z => va_P g.1 vwCl z H) (ck_S9 g q (s_X0_layForm_7 v) (0 : Int32))).mp hP
  have hD : va_D A (ck g q (s_X0_layForm_12 v)) := (congrArg (fun z => va_D A z) (ck_S9 g q (s_X0_layForm_7 v) (0 : Int32))).mp hD
  have E : (f_X0_layForm v) = (s_X0_layForm_12 v) := rfl
  exact hret _ _ _ _ _ dX0_layForm_15 (congrArg (fun z => (ck g q z)) E).symm hP hD hS
abbrev rm_X0_finishForm : Room := { frames := 1, cells := 0, slots := 0, locals := 20 }
set_option maxRecDepth 20000 in
theorem zin_X0_finishForm_X0 : ∀ w ∈ wsX00, w ∈ wsX0_finishForm := by decide +kernel
def s_X0_finishForm_51 (v : zCV) : zCV := zS v 12 ((v.1 12) + (1 : Int32))
def s_X0_finishForm_55 (v : zCV) : zCV := (f_X0_layForm (s_X0_finishForm_51 v))
def s_X0_finishForm_38 (v : zCV) : zCV := zS v 11 ((v.1 11) + (1 : Int32))
def s_X0_finishForm_55_2 (v : zCV) : zCV := (f_X0_layForm (s_X0_finishForm_38 v))
def s_X0_finishForm_14 (v : zCV) : zCV := zS v 13 ((v.1 13) + (1 : Int32))
def s_X0_finishForm_55_3 (v : zCV) : zCV := (f_X0_layForm (s_X0_finishForm_14 v))
def f_X0_finishForm (v : zCV) : zCV := if (v.1 8) = (0 : Int32) then (if (v.1 7) = (v.1 6) then ((s_X0_finishForm_55_2 v)) else ((s_X0_finishForm_55 v))) else ((s_X0_finishForm_55_3 v))
set_option maxRecDepth 100000 in
set_option maxHeartbeats 4000000 in
theorem m_X0_finishForm (l : Launch) (g : zG) (q : Nat → Nat) (v : zCV) : ZV l yX0_finishForm wsX0_finishForm rm_X0_finishForm g (ck g q v) [.ref (q 0)] (ck g q (f_X0_finishForm v)) := by
  refine zopenV (cc := cX0_finishForm) (maxL := 1) (by decide +kernel) rfl (Nat.le_of_ble_eq_true rfl) ?_
  intro p e s m below meth c A Q ls hx hb hml hown hts hP hK hD hA hN hl hret
  have hS : va_S A s.heap s.heap [] := va_S.rf
  have hl : lv_has ls 1 [(0, .ref (q 0))] := hl
  have hown : s.vm.findClass RX0 = some m.cls := hown
  refine lv_aload_n hx hb dX0_finishForm_0 rfl (lv_at hl 0 rfl) ?_
  refine va_get (D := g.1) (ci := 0) (v := .int (v.1 8)) (C := RX0) (T := TX0) (N := 13) hx hb hts (zin_X0_finishForm_X0) hown hK hP 0 rfl rfl 6 (by decide) (hts (.fieldLink RX0 53 "PegClerks$Clerk" "formSpoiled" "Z") (by decide +kernel)) (fun _ h9 => h9) rfl dX0_finishForm_1 ?_
  refine lv_if_eq (tgt := 20) hx hb dX0_finishForm_4 (by decide) (fun c_4 => ?_) (fun c_4 => ?_)
  · refine lv_aload_n hx hb dX0_finishForm_20 rfl (lv_at hl 0 rfl) ?_
    refine va_get (D := g.1) (ci := 0) (v := .int (v.1 7)) (C := RX0) (T := TX0) (N := 13) hx hb hts (zin_X0_finishForm_X0) hown hK hP 0 rfl rfl 5 (by decide) (hts (.fieldLink RX0 50 "PegClerks$Clerk" "formStamps" "I") (by decide +kernel)) (fun _ h9 => h9) rfl dX0_finishForm_21 ?_
    refine lv_aload_n hx hb dX0_finishForm_24 rfl (lv_at hl 0 rfl) ?_
    refine va_get (D := g.1) (ci := 0) (v := .int (v.1 6)) (C := RX0) (T := TX0) (N := 13) hx hb hts (zin_X0_finishForm_X0) hown hK hP 0 rfl rfl 4 (by decide) (hts (.fieldLink RX0 46 "PegClerks$Clerk" "order" "I") (by decide +kernel)) (fun _ h9 => h9) rfl dX0_finishForm_25 ?_
    refine lv_icmp_ne (tgt := 44) hx hb dX0_finishForm_28 (by decide) (fun c_28 => ?_) (fun c_28 => ?_)
    · refine lv_aload_n hx hb dX0_finishForm_44 rfl (lv_at hl 0 rfl) ?_
      refine lv_dup hx hb dX0_finishForm_45 rfl ?_
      refine va_get (D := g.1) (ci := 0) (v := .int (v.1 12)) (C := RX0) (T := TX0) (N := 13) hx hb hts (zin_X0_finishForm_X0) hown hK hP 0 rfl rfl 10 (by decide) (hts (.fieldLink RX0 65 "PegClerks$Clerk" "wrongForms" "I") (by decide +kernel)) (fun _ h9 => h9) rfl dX0_finishForm_46 ?_
      refine lv_iconst (v := (1 : Int32)) hx hb dX0_finishForm_49 (by decide) ?_
      refine lv_iadd hx hb dX0_finishForm_50 ?_
      refine va_put (D := g.1) (ci := 0) (v := .int ((v.1 12) + (1 : Int32))) (ty := .int) (C := RX0) (T := TX0) (N := 13) hx hb hts (zin_X0_finishForm_X0) tyX0 tyX0_ok nmX0 hown hK hP hD hS 0 rfl rfl 10 (by decide) (hts (.fieldLink RX0 65 "PegClerks$Clerk" "wrongForms" "I") (by decide +kernel)) (fun _ h9 => h9) rfl (by decide +kernel) rfl rfl (Nat.le_of_ble_eq_true rfl) dX0_finishForm_51 (fun H locs hP hD hS => ?_)
      have hP : va_P g.1 vwCl (ck g q (s_X0_finishForm_51 v)) H := (congrArg (fun z => va_P g.1 vwCl z H) (ck_S12 g q v ((v.1 12) + (1 : Int32)))).mp hP
      have hD : va_D A (ck g q (s_X0_finishForm_51 v)) := (congrArg (fun z => va_D A z) (ck_S12 g q v ((v.1 12) + (1 : Int32)))).mp hD
      refine lv_aload_n hx hb dX0_finishForm_54 rfl (lv_at hl 0 rfl) ?_
      refine zcVv (n := 0) (As := []) (rest := []) (Xr := []) (Xn := (ck g q (s_X0_finishForm_55 v))) (ci := 0) (C := RX0) (T := TX0) (N := 13) (q0 := 0) hx hb hml hown hts hN (m_X0_layForm l g q (s_X0_finishForm_51 v) ) gX0_finishForm_X0_layForm rfl (by decide +kernel) ⟨rfl, rfl⟩ ⟨Nat.le_of_ble_eq_true rfl, Nat.le_of_ble_eq_true rfl⟩ hK hP hD hS hA (zpn _) rfl rfl rfl hl.1 rfl (Nat.le_of_ble_eq_true rfl) dX0_finishForm_55 ⟨Nat.zero_le _, Nat.zero_le _⟩ (zpn' _) (fun H locs hP hD hS => ?_)
      have E : (f_X0_finishForm v) = (s_X0_finishForm_55 v) := (if_pos c_4).trans ((if_neg c_28).trans rfl)
      exact hret _ _ _ _ _ dX0_finishForm_58 (congrArg (fun z => (ck g q z)) E).symm hP hD hS
    · refine lv_aload_n hx hb dX0_finishForm_31 rfl (lv_at hl 0 rfl) ?_
      refine lv_dup hx hb dX0_finishForm_32 rfl ?_
      refine va_get (D := g.1) (ci := 0) (v := .int (v.1 11)) (C := RX0) (T := TX0) (N := 13) hx hb hts (zin_X0_finishForm_X0) hown hK hP 0 rfl rfl 9 (by decide) (hts (.fieldLink RX0 62 "PegClerks$Clerk" "rightForms" "I") (by decide +kernel)) (fun _ h9 => h9) rfl dX0_finishForm_33 ?_
      refine lv_iconst (v := (1 : Int32)) hx hb dX0_finishForm_36 (by decide) ?_
      refine lv_iadd hx hb dX0_finishForm_37 ?_
      refine va_put (D := g.1) (ci := 0) (v := .int ((v.1 11) + (1 : Int32))) (ty := .int) (C := RX0) (T := TX0) (N := 13) hx hb hts (zin_X0_finishForm_X0) tyX0 tyX0_ok nmX0 hown hK hP hD hS 0 rfl rfl 9 (by decide) (hts (.fieldLink RX0 62 "PegClerks$Clerk" "rightForms" "I") (by decide +kernel)) (fun _ h9 => h9) rfl (by decide +kernel) rfl rfl (Nat.le_of_ble_eq_true rfl) dX0_finishForm_38 (fun H locs hP hD hS => ?_)
      have hP : va_P g.1 vwCl (ck g q (s_X0_finishForm_38 v)) H := (congrArg (fun z => va_P g.1 vwCl z H) (ck_S11 g q v ((v.1 11) + (1 : Int32)))).mp hP
      have hD : va_D A (ck g q (s_X0_finishForm_38 v)) := (congrArg (fun z => va_D A z) (ck_S11 g q v ((v.1 11) + (1 : Int32)))).mp hD
      refine lv_goto (tgt := 54) hx hb dX0_finishForm_41 (by decide) ?_
      refine lv_aload_n hx hb dX0_finishForm_54 rfl (lv_at hl 0 rfl) ?_
      refine zcVv (n := 0) (As := []) (rest := []) (Xr := []) (Xn := (ck g q (s_X0_finishForm_55_2 v))) (ci := 0) (C := RX0) (T := TX0) (N := 13) (q0 := 0) hx hb hml hown hts hN (m_X0_layForm l g q (s_X0_finishForm_38 v) ) gX0_finishForm_X0_layForm rfl (by decide +kernel) ⟨rfl, rfl⟩ ⟨Nat.le_of_ble_eq_true rfl, Nat.le_of_ble_eq_true rfl⟩ hK hP hD hS hA (zpn _) rfl rfl rfl hl.1 rfl (Nat.le_of_ble_eq_true rfl) dX0_finishForm_55 ⟨Nat.zero_le _, Nat.zero_le _⟩ (zpn' _) (fun H locs hP hD hS => ?_)
      have E : (f_X0_finishForm v) = (s_X0_finishForm_55_2 v) := (if_pos c_4).trans ((if_pos c_28).trans rfl)
      exact hret _ _ _ _ _ dX0_finishForm_58 (congrArg (fun z => (ck g q z)) E).symm hP hD hS
  · refine lv_aload_n hx hb dX0_finishForm_7 rfl (lv_at hl 0 rfl) ?_
    refine lv_dup hx hb dX0_finishForm_8 rfl ?_
    refine va_get (D := g.1) (ci := 0) (v := .int (v.1 13)) (C := RX0) (T := TX0) (N := 13) hx hb hts (zin_X0_finishForm_X0) hown hK hP 0 rfl rfl 11 (by decide) (hts (.fieldLink RX0 68 "PegClerks$Clerk" "spoiledForms" "I") (by decide +kernel)) (fun _ h9 => h9) rfl dX0_finishForm_9 ?_
    refine lv_iconst (v := (1 : Int32)) hx hb dX0_finishForm_12 (by decide) ?_
    refine lv_iadd hx hb dX0_finishForm_13 ?_
    refine va_put (D := g.1) (ci := 0) (v := .int ((v.1 13) + (1 : Int32))) (ty := .int) (C := RX0) (T := TX0) (N := 13) hx hb hts (zin_X0_finishForm_X0) tyX0 tyX0_ok nmX0 hown hK hP hD hS 0 rfl rfl 11 (by decide) (hts (.fieldLink RX0 68 "PegClerks$Clerk" "spoiledForms" "I") (by decide +kernel)) (fun _ h9 => h9) rfl (by decide +kernel) rfl rfl (Nat.le_of_ble_eq_true rfl) dX0_finishForm_14 (fun H locs hP hD hS => ?_)
    have hP : va_P g.1 vwCl (ck g q (s_X0_finishForm_14 v)) H := (congrArg (fun z => va_P g.1 vwCl z H) (ck_S13 g q v ((v.1 13) + (1 : Int32)))).mp hP
    have hD : va_D A (ck g q (s_X0_finishForm_14 v)) := (congrArg (fun z => va_D A z) (ck_S13 g q v ((v.1 13) + (1 : Int32)))).mp hD
    refine lv_goto (tgt := 54) hx hb dX0_finishForm_17 (by decide) ?_
    refine lv_aload_n hx hb dX0_finishForm_54 rfl (lv_at hl 0 rfl) ?_
    refine zcVv (n := 0) (As := []) (rest := []) (Xr := []) (Xn := (ck g q (s_X0_finishForm_55_3 v))) (ci := 0) (C := RX0) (T := TX0) (N := 13) (q0 := 0) hx hb hml hown hts hN (m_X0_layForm l g q (s_X0_finishForm_14 v) ) gX0_finishForm_X0_layForm rfl (by decide +kernel) ⟨rfl, rfl⟩ ⟨Nat.le_of_ble_eq_true rfl, Nat.le_of_ble_eq_true rfl⟩ hK hP hD hS hA (zpn _) rfl rfl rfl hl.1 rfl (Nat.le_of_ble_eq_true rfl) dX0_finishForm_55 ⟨Nat.zero_le _, Nat.zero_le _⟩ (zpn' _) (fun H locs hP hD hS => ?_)
    have E : (f_X0_finishForm v) = (s_X0_finishForm_55_3 v) := (if_neg c_4).trans rfl
    exact hret _ _ _ _ _ dX0_finishForm_58 (congrArg (fun z => (ck g q z)) E).symm hP hD hS
abbrev rm_X0_letStampFall : Room := { frames := 1, cells := 0, slots := 0, locals := 22 }
set_option maxRecDepth 20000 in
theorem zin_X0_letStampFall_X0 : ∀ w ∈ wsX00, w ∈ wsX0_letStampFall := by decide +kernel
set_option maxRecDepth 20000 in
theorem zin_X0_letStampFall_X4 : ∀ w ∈ wsX40, w ∈ wsX0_letStampFall := by decide +kernel
def r_X0_letStampFall_40 (v : zCV) (p0 : Int32) : Int32 × zCV := (f_X4_leavesMark v p0 ((v.2 0) 1))
def s_X0_letStampFall_55 (v : zCV) (p0 : Int32) : zCV := zS (r_X0_letStampFall_40 v p0).2 7 (((r_X0_letStampFall_40 v p0).2.1 7) ||| ((1 : Int32) <<< (p0 &&& 31)))
def s_X0_letStampFall_13 (v : zCV) : zCV := zS v 8 (1 : Int32)
def s_X0_letStampFall_28 (v : zCV) (p0 : Int32) : zCV := zA (s_X0_letStampFall_13 v) 6 (upd ((s_X0_letStampFall_13 v).2 6) p0.toNatClampNeg ((((s_X0_letStampFall_13 v).2 6) p0.toNatClampNeg) + (1 : Int32)))
def r_X0_letStampFall_40_2 (v : zCV) (p0 : Int32) : Int32 × zCV := (f_X4_leavesMark (s_X0_letStampFall_28 v p0) p0 (((s_X0_letStampFall_28 v p0).2 0) 1))
def s_X0_letStampFall_55_2 (v : zCV) (p0 : Int32) : zCV := zS (r_X0_letStampFall_40_2 v p0).2 7 (((r_X0_letStampFall_40_2 v p0).2.1 7) ||| ((1 : Int32) <<< (p0 &&& 31)))
def f_X0_letStampFall (v : zCV) (p0 : Int32) : zCV := if (((v.1 7) >>> (p0 &&& 31)) &&& (1 : Int32)) = (0 : Int32) then (if ((r_X0_letStampFall_40 v p0).1) = (0 : Int32) then ((r_X0_letStampFall_40 v p0).2) else ((s_X0_letStampFall_55 v p0))) else (if ((r_X0_letStampFall_40_2 v p0).1) = (0 : Int32) then ((r_X0_letStampFall_40_2 v p0).2) else ((s_X0_letStampFall_55_2 v p0)))
set_option maxRecDepth 100000 in
set_option maxHeartbeats 4000000 in
theorem m_X0_letStampFall (l : Launch) (g : zG) (q : Nat → Nat) (v : zCV) (p0 : Int32) (h0 : vp_in p0 6) : ZV l yX0_letStampFall wsX0_letStampFall rm_X0_letStampFall g (ck g q v) [.ref (q 0), .int p0] (ck g q (f_X0_letStampFall v p0)) := by
  refine zopenV (cc := cX0_letStampFall) (maxL := 2) (by decide +kernel) rfl (Nat.le_of_ble_eq_true rfl) ?_
  intro p e s m below meth c A Q ls hx hb hml hown hts hP hK hD hA hN hl hret
  have hS : va_S A s.heap s.heap [] := va_S.rf
  have hl : lv_has ls 2 [(0, .ref (q 0)), (1, .int p0)] := hl
  have hown : s.vm.findClass RX0 = some m.cls := hown
  refine lv_aload_n hx hb dX0_letStampFall_0 rfl (lv_at hl 0 rfl) ?_
  refine va_get (D := g.1) (ci := 0) (v := .int (v.1 7)) (C := RX0) (T := TX0) (N := 13) hx hb hts (zin_X0_letStampFall_X0) hown hK hP 0 rfl rfl 5 (by decide) (hts (.fieldLink RX0 50 "PegClerks$Clerk" "formStamps" "I") (by decide +kernel)) (fun _ h9 => h9) rfl dX0_letStampFall_1 ?_
  refine lv_iload_n hx hb dX0_letStampFall_4 rfl (lv_at hl 1 rfl) ?_
  refine lv_ishr hx hb dX0_letStampFall_5 ?_
  refine lv_iconst (v := (1 : Int32)) hx hb dX0_letStampFall_6 (by decide) ?_
  refine lv_iand hx hb dX0_letStampFall_7 ?_
  refine lv_if_eq (tgt := 29) hx hb dX0_letStampFall_8 (by decide) (fun c_8 => ?_) (fun c_8 => ?_)
  · refine lv_aload_n hx hb dX0_letStampFall_29 rfl (lv_at hl 0 rfl) ?_
    refine va_get (D := g.1) (ci := 0) (v := .ref (q 5)) (C := RX0) (T := TX0) (N := 13) hx hb hts (zin_X0_letStampFall_X0) hown hK hP 0 rfl rfl 2 (by decide) (hts (.fieldLink RX0 25 "PegClerks$Clerk" "stamps" "LPegClerks$Stamps;") (by decide +kernel)) (fun _ h9 => h9) rfl dX0_letStampFall_30 ?_
    refine lv_iload_n hx hb dX0_letStampFall_33 rfl (lv_at hl 1 rfl) ?_
    refine lv_aload_n hx hb dX0_letStampFall_34 rfl (lv_at hl 0 rfl) ?_
    refine va_get (D := g.1) (ci := 0) (v := .ref (q 1)) (C := RX0) (T := TX0) (N := 13) hx hb hts (zin_X0_letStampFall_X0) hown hK hP 0 rfl rfl 0 (by decide) (hts (.fieldLink RX0 9 "PegClerks$Clerk" "settings" "[I") (by decide +kernel)) (fun _ h9 => h9) rfl dX0_letStampFall_35 ?_
    refine lv_iconst (v := (1 : Int32)) hx hb dX0_letStampFall_38 (by decide) ?_
    refine z_iald (f := (v.2 0)) (k := 1) hx hb hK hP 1 0 rfl rfl (zlit (1 : Int32) 4 (by decide +kernel)) (by decide +kernel) dX0_letStampFall_39 ?_
    refine zcVi (n := 2) (As := [.int p0, .int ((v.2 0) 1)]) (rest := []) (Xr := []) (Xn := (ck g q (r_X0_letStampFall_40 v p0).2)) (ci := 4) (C := RX4) (T := TX4) (N := 4) (q0 := 5) hx hb hml hown hts hN (m_X4_leavesMark l g q v p0 ((v.2 0) 1) h0) gX0_letStampFall_X4_leavesMark rfl (by decide +kernel) ⟨rfl, rfl⟩ ⟨Nat.le_of_ble_eq_true rfl, Nat.le_of_ble_eq_true rfl⟩ hK hP hD hS hA (zpn _) rfl rfl rfl hl.1 rfl (Nat.le_of_ble_eq_true rfl) dX0_letStampFall_40 ⟨Nat.zero_le _, Nat.zero_le _⟩ (zpn' _) (fun H locs hP hD hS => ?_)
    refine lv_if_eq (tgt := 58) hx hb dX0_letStampFall_43 (by decide) (fun c_43 => ?_) (fun c_43 => ?_)
    · have E : (f_X0_letStampFall v p0) = (r_X0_letStampFall_40 v p0).2 := (if_pos c_8).trans ((if_pos c_43).trans rfl)
      exact hret _ _ _ _ _ dX0_letStampFall_58 (congrArg (fun z => (ck g q z)) E).symm hP hD hS
    · refine lv_aload_n hx hb dX0_letStampFall_46 rfl (lv_at hl 0 rfl) ?_
      refine lv_dup hx hb dX0_letStampFall_47 rfl ?_
      refine va_get (D := g.1) (ci := 0) (v := .int ((r_X0_letStampFall_40 v p0).2.1 7)) (C := RX0) (T := TX0) (N := 13) hx hb hts (zin_X0_letStampFall_X0) hown hK hP 0 rfl rfl 5 (by decide) (hts (.fieldLink RX0 50 "PegClerks$Clerk" "formStamps" "I") (by decide +kernel)) (fun _ h9 => h9) rfl dX0_letStampFall_48 ?_
      refine lv_iconst (v := (1 : Int32)) hx hb dX0_letStampFall_51 (by decide) ?_
      refine lv_iload_n hx hb dX0_letStampFall_52 rfl (lv_at hl 1 rfl) ?_
      refine lv_ishl hx hb dX0_letStampFall_53 ?_
      refine lv_ior hx hb dX0_letStampFall_54 ?_
      refine va_put (D := g.1) (ci := 0) (v := .int (((r_X0_letStampFall_40 v p0).2.1 7) ||| ((1 : Int32) <<< (p0 &&& 31)))) (ty := .int) (C := RX0) (T := TX0) (N := 13) hx hb hts (zin_X0_letStampFall_X0) tyX0 tyX0_ok nmX0 hown hK hP hD hS 0 rfl rfl 5 (by decide) (hts (.fieldLink RX0 50 "PegClerks$Clerk" "formStamps" "I") (by decide +kernel)) (fun _ h9 => h9) rfl (by decide +kernel) rfl rfl (Nat.le_of_ble_eq_true rfl) dX0_letStampFall_55 (fun H locs hP hD hS => ?_)
      have hP : va_P g.1 vwCl (ck g q (s_X0_letStampFall_55 v p0)) H := (congrArg (fun z => va_P g.1 vwCl z H) (ck_S7 g q (r_X0_letStampFall_40 v p0).2 (((r_X0_letStampFall_40 v p0).2.1 7) ||| ((1 : Int32) <<< (p0 &&& 31))))).mp hP
      have hD : va_D A (ck g q (s_X0_letStampFall_55 v p0)) := (congrArg (fun z => va_D A z) (ck_S7 g q (r_X0_letStampFall_40 v p0).2 (((r_X0_letStampFall_40 v p0).2.1 7) ||| ((1 : Int32) <<< (p0 &&& 31))))).mp hD
      have E : (f_X0_letStampFall v p0) = (s_X0_letStampFall_55 v p0) := (if_pos c_8).trans ((if_neg c_43).trans rfl)
      exact hret _ _ _ _ _ dX0_letStampFall_58 (congrArg (fun z => (ck g q z)) E).symm hP hD hS
  · refine lv_aload_n hx hb dX0_letStampFall_11 rfl (lv_at hl 0 rfl) ?_
    refine lv_iconst (v := (1 : Int32)) hx hb dX0_letStampFall_12 (by decide) ?_
    refine va_put (D := g.1) (ci := 0) (v := .int (1 : Int32)) (ty := .boolean) (C := RX0) (T := TX0) (N := 13) hx hb hts (zin_X0_letStampFall_X0) tyX0 tyX0_ok nmX0 hown hK hP hD hS 0 rfl rfl 6 (by decide) (hts (.fieldLink RX0 53 "PegClerks$Clerk" "formSpoiled" "Z") (by decide +kernel)) (fun _ h9 => h9) rfl (by decide +kernel) rfl rfl (Nat.le_of_ble_eq_true rfl) dX0_letStampFall_13 (fun H locs hP hD hS => ?_)
    have hP : va_P g.1 vwCl (ck g q (s_X0_letStampFall_13 v)) H := (congrArg (fun z => va_P g.1 vwCl z H) (ck_S8 g q v (1 : Int32))).mp hP
    have hD : va_D A (ck g q (s_X0_letStampFall_13 v)) := (congrArg (fun z => va_D A z) (ck_S8 g q v (1 : Int32))).mp hD
    refine lv_aload_n hx hb dX0_letStampFall_16 rfl (lv_at hl 0 rfl) ?_
    refine va_get (D := g.1) (ci := 0) (v := .ref (q 5)) (C := RX0) (T := TX0) (N := 13) hx hb hts (zin_X0_letStampFall_X0) hown hK hP 0 rfl rfl 2 (by decide) (hts (.fieldLink RX0 25 "PegClerks$Clerk" "stamps" "LPegClerks$Stamps;") (by decide +kernel)) (fun _ h9 => h9) rfl dX0_letStampFall_17 ?_
    refine va_get (D := g.1) (ci := 4) (v := .ref (q 9)) (C := RX4) (T := TX4) (N := 4) hx hb hts (zin_X0_letStampFall_X4) hown hK hP 5 rfl rfl 3 (by decide) (hts (.fieldLink RX0 109 "PegClerks$Stamps" "spoilings" "[I") (by decide +kernel)) (fun _ h9 => h9) rfl dX0_letStampFall_20 ?_
    refine lv_iload_n hx hb dX0_letStampFall_23 rfl (lv_at hl 1 rfl) ?_
    refine lv_dup2_11 hx hb dX0_letStampFall_24 rfl rfl ?_
    refine z_iald (f := ((s_X0_letStampFall_13 v).2 6)) (k := p0.toNatClampNeg) hx hb hK hP 9 0 rfl rfl h0 rfl dX0_letStampFall_25 ?_
    refine lv_iconst (v := (1 : Int32)) hx hb dX0_letStampFall_26 (by decide) ?_
    refine lv_iadd hx hb dX0_letStampFall_27 ?_
    refine z_iast (f := ((s_X0_letStampFall_13 v).2 6)) (k := p0.toNatClampNeg) hx hb hK hP hD hS 9 0 rfl rfl h0 rfl dX0_letStampFall_28 (fun H locs hP hD hS => ?_)
    have hP : va_P g.1 vwCl (ck g q (s_X0_letStampFall_28 v p0)) H := (congrArg (fun z => va_P g.1 vwCl z H) (ck_A6 g q (s_X0_letStampFall_13 v) (upd ((s_X0_letStampFall_13 v).2 6) p0.toNatClampNeg ((((s_X0_letStampFall_13 v).2 6) p0.toNatClampNeg) + (1 : Int32))))).mp hP
    have hD : va_D A (ck g q (s_X0_letStampFall_28 v p0)) := (congrArg (fun z => va_D A z) (ck_A6 g q (s_X0_letStampFall_13 v) (upd ((s_X0_letStampFall_13 v).2 6) p0.toNatClampNeg ((((s_X0_letStampFall_13 v).2 6) p0.toNatClampNeg) + (1 : Int32))))).mp hD
    refine lv_aload_n hx hb dX0_letStampFall_29 rfl (lv_at hl 0 rfl) ?_
    refine va_get (D := g.1) (ci := 0) (v := .ref (q 5)) (C := RX0) (T := TX0) (N := 13) hx hb hts (zin_X0_letStampFall_X0) hown hK hP 0 rfl rfl 2 (by decide) (hts (.fieldLink RX0 25 "PegClerks$Clerk" "stamps" "LPegClerks$Stamps;") (by decide +kernel)) (fun _ h9 => h9) rfl dX0_letStampFall_30 ?_
    refine lv_iload_n hx hb dX0_letStampFall_33 rfl (lv_at hl 1 rfl) ?_
    refine lv_aload_n hx hb dX0_letStampFall_34 rfl (lv_at hl 0 rfl) ?_
    refine va_get (D := g.1) (ci := 0) (v := .ref (q 1)) (C := RX0) (T := TX0) (N := 13) hx hb hts (zin_X0_letStampFall_X0) hown hK hP 0 rfl rfl 0 (by decide) (hts (.fieldLink RX0 9 "PegClerks$Clerk" "settings" "[I") (by decide +kernel)) (fun _ h9 => h9) rfl dX0_letStampFall_35 ?_
    refine lv_iconst (v := (1 : Int32)) hx hb dX0_letStampFall_38 (by decide) ?_
    refine z_iald (f := ((s_X0_letStampFall_28 v p0).2 0)) (k := 1) hx hb hK hP 1 0 rfl rfl (zlit (1 : Int32) 4 (by decide +kernel)) (by decide +kernel) dX0_letStampFall_39 ?_
    refine zcVi (n := 2) (As := [.int p0, .int (((s_X0_letStampFall_28 v p0).2 0) 1)]) (rest := []) (Xr := []) (Xn := (ck g q (r_X0_letStampFall_40_2 v p0).2)) (ci := 4) (C := RX4) (T := TX4) (N := 4) (q0 := 5) hx hb hml hown hts hN (m_X4_leavesMark l g q (s_X0_letStampFall_28 v p0) p0 (((s_X0_letStampFall_28 v p0).2 0) 1) h0) gX0_letStampFall_X4_leavesMark rfl (by decide +kernel) ⟨rfl, rfl⟩ ⟨Nat.le_of_ble_eq_true rfl, Nat.le_of_ble_eq_true rfl⟩ hK hP hD hS hA (zpn _) rfl rfl rfl hl.1 rfl (Nat.le_of_ble_eq_true rfl) dX0_letStampFall_40 ⟨Nat.zero_le _, Nat.zero_le _⟩ (zpn' _) (fun H locs hP hD hS => ?_)
    refine lv_if_eq (tgt := 58) hx hb dX0_letStampFall_43 (by decide) (fun c_43 => ?_) (fun c_43 => ?_)
    · have E : (f_X0_letStampFall v p0) = (r_X0_letStampFall_40_2 v p0).2 := (if_neg c_8).trans ((if_pos c_43).trans rfl)
      exact hret _ _ _ _ _ dX0_letStampFall_58 (congrArg (fun z => (ck g q z)) E).symm hP hD hS
    · refine lv_aload_n hx hb dX0_letStampFall_46 rfl (lv_at hl 0 rfl) ?_
      refine lv_dup hx hb dX0_letStampFall_47 rfl ?_
      refine va_get (D := g.1) (ci := 0) (v := .int ((r_X0_letStampFall_40_2 v p0).2.1 7)) (C := RX0) (T := TX0) (N := 13) hx hb hts (zin_X0_letStampFall_X0) hown hK hP 0 rfl rfl 5 (by decide) (hts (.fieldLink RX0 50 "PegClerks$Clerk" "formStamps" "I") (by decide +kernel)) (fun _ h9 => h9) rfl dX0_letStampFall_48 ?_
      refine lv_iconst (v := (1 : Int32)) hx hb dX0_letStampFall_51 (by decide) ?_
      refine lv_iload_n hx hb dX0_letStampFall_52 rfl (lv_at hl 1 rfl) ?_
      refine lv_ishl hx hb dX0_letStampFall_53 ?_
      refine lv_ior hx hb dX0_letStampFall_54 ?_
      refine va_put (D := g.1) (ci := 0) (v := .int (((r_X0_letStampFall_40_2 v p0).2.1 7) ||| ((1 : Int32) <<< (p0 &&& 31)))) (ty := .int) (C := RX0) (T := TX0) (N := 13) hx hb hts (zin_X0_letStampFall_X0) tyX0 tyX0_ok nmX0 hown hK hP hD hS 0 rfl rfl 5 (by decide) (hts (.fieldLink RX0 50 "PegClerks$Clerk" "formStamps" "I") (by decide +kernel)) (fun _ h9 => h9) rfl (by decide +kernel) rfl rfl (Nat.le_of_ble_eq_true rfl) dX0_letStampFall_55 (fun H locs hP hD hS => ?_)
      have hP : va_P g.1 vwCl (ck g q (s_X0_letStampFall_55_2 v p0)) H := (congrArg (fun z => va_P g.1 vwCl z H) (ck_S7 g q (r_X0_letStampFall_40_2 v p0).2 (((r_X0_letStampFall_40_2 v p0).2.1 7) ||| ((1 : Int32) <<< (p0 &&& 31))))).mp hP
      have hD : va_D A (ck g q (s_X0_letStampFall_55_2 v p0)) := (congrArg (fun z => va_D A z) (ck_S7 g q (r_X0_letStampFall_40_2 v p0).2 (((r_X0_letStampFall_40_2 v p0).2.1 7) ||| ((1 : Int32) <<< (p0 &&& 31))))).mp hD
      have E : (f_X0_letStampFall v p0) = (s_X0_letStampFall_55_2 v p0) := (if_neg c_8).trans ((if_neg c_43).trans rfl)
      exact hret _ _ _ _ _ dX0_letStampFall_58 (congrArg (fun z => (ck g q z)) E).symm hP hD hS
theorem eat_wear (v : zCV) (a b c : Int32) : (f_X1_wearPeg v a b c).1 4 = v.1 4 := by
  unfold f_X1_wearPeg
  repeat' split
  all_goals rfl
theorem eat_lsf (v : zCV) (a : Int32) : (f_X0_letStampFall v a).1 4 = v.1 4 := by
  have e1 : (r_X0_letStampFall_40 v a).2.1 4 = v.1 4 := by
    show (f_X4_leavesMark _ _ _).2.1 4 = _
    unfold f_X4_leavesMark
    split <;> rfl
  have e2 : (r_X0_letStampFall_40_2 v a).2.1 4 = v.1 4 := by
    show (f_X4_leavesMark _ _ _).2.1 4 = _
    unfold f_X4_leavesMark
    split <;> rfl
  unfold f_X0_letStampFall
  repeat' split
  all_goals first | exact e1 | exact e2
theorem zat_wear {v : zCV} {a b c : Int32} (h : vp_in (v.1 4) 16) : vp_in ((f_X1_wearPeg v a b c).1 4) 16 := by rw [eat_wear]; exact h
theorem zat_lsf {v : zCV} {a : Int32} (h : vp_in (v.1 4) 16) : vp_in ((f_X0_letStampFall v a).1 4) 16 := by rw [eat_lsf]; exact h
abbrev rm_X0_letStampsFall : Room := { frames := 2, cells := 0, slots := 0, locals := 43 }
set_option maxRecDepth 20000 in
theorem zin_X0_letStampsFall_X0 : ∀ w ∈ wsX00, w ∈ wsX0_letStampsFall := by decide +kernel
set_option maxRecDepth 20000 in
theorem zin_X0_letStampsFall_X1 : ∀ w ∈ wsX10, w ∈ wsX0_letStampsFall := by decide +kernel
def s_X0_letStampsFall_18 (i2 : Nat) (w2_0 : zCV) : zCV := (f_X0_letStampFall w2_0 (nI i2))
def s_X0_letStampsFall_39 (i2 : Nat) (w2_0 : zCV) : zCV := (f_X1_wearPeg (s_X0_letStampsFall_18 i2 w2_0) ((s_X0_letStampsFall_18 i2 w2_0).1 4) (nI i2) (((s_X0_letStampsFall_18 i2 w2_0).2 0) 2))
def f_X0_letStampsFall_L2 (p0 : Int32) : Nat → Nat → zCV → zCV
  | 0, i2, w2_0 => w2_0
  | n2 + 1, i2, w2_0 => if ((p0 >>> ((nI i2) &&& 31)) &&& (1 : Int32)) = (0 : Int32) then ((f_X0_letStampsFall_L2 p0 n2 (i2 + 1) w2_0)) else ((f_X0_letStampsFall_L2 p0 n2 (i2 + 1) (s_X0_letStampsFall_39 i2 w2_0)))
def f_X0_letStampsFall (v : zCV) (p0 : Int32) : zCV := (f_X0_letStampsFall_L2 p0 6 0 v)
set_option maxRecDepth 100000 in
set_option maxHeartbeats 4000000 in
theorem m_X0_letStampsFall (l : Launch) (g : zG) (q : Nat → Nat) (v : zCV) (p0 : Int32) (hat : vp_in (v.1 4) 16) : ZV l yX0_letStampsFall wsX0_letStampsFall rm_X0_letStampsFall g (ck g q v) [.ref (q 0), .int p0] (ck g q (f_X0_letStampsFall v p0)) := by
  refine zopenV (cc := cX0_letStampsFall) (maxL := 3) (by decide +kernel) rfl (Nat.le_of_ble_eq_true rfl) ?_
  intro p e s m below meth c A Q ls hx hb hml hown hts hP hK hD hA hN hl hret
  have hS : va_S A s.heap s.heap [] := va_S.rf
  have hl : lv_has ls 3 [(0, .ref (q 0)), (1, .int p0)] := hl
  have hown : s.vm.findClass RX0 = some m.cls := hown
  refine lv_iconst (v := (0 : Int32)) hx hb dX0_letStampsFall_0 (by decide) ?_
  refine lv_istore_n (lv' := [(2, .int (0 : Int32)), (0, .ref (q 0)), (1, .int p0)]) hx hb dX0_letStampsFall_1 rfl hl (by decide) rfl (fun ls hl => ?_)
  have L2 : ∀ (n2 : Nat) (i2 : Nat), i2 + n2 = 6 → ∀ (w2_0 : zCV) (H : Heap) (locs : List Loc) (ls : Array Slot), vp_in (w2_0.1 4) 16 → va_P g.1 vwCl (ck g q w2_0) H → va_D A (ck g q w2_0) → va_S A s.heap H locs → lv_has ls 3 [(2, .int (nI i2)), (0, .ref (q 0)), (1, .int p0)] → (∀ (H : Heap) (locs : List Loc) (ls : Array Slot), va_P g.1 vwCl (ck g q (f_X0_letStampsFall_L2 p0 n2 i2 w2_0)) H → va_D A (ck g q (f_X0_letStampsFall_L2 p0 n2 i2 w2_0)) → va_S A s.heap H locs → lv_has ls 3 [(0, .ref (q 0)), (1, .int p0)] → W p l e rm_X0_letStampsFall s m ([.ref (q 0), .int p0] : List Value).toArray below meth c H locs 0 0 Q (F0 m 48 ls [])) → W p l e rm_X0_letStampsFall s m ([.ref (q 0), .int p0] : List Value).toArray below meth c H locs 0 0 Q (F0 m 2 ls []) := by
    intro n2
    induction n2 with
    | zero =>
      intro i2 hin2 w2_0 H locs ls hat hP hD hS hl kx
      refine lv_iload_n hx hb dX0_letStampsFall_2 rfl (lv_at hl 0 rfl) ?_
      refine lv_bipush (v := (6 : Int32)) hx hb dX0_letStampsFall_3 (by decide) ?_
      refine lv_icmp_ge (tgt := 48) hx hb dX0_letStampsFall_5 (by decide) (fun c_5 => ?_) (fun c_5 => ?_)
      rotate_left
      · exact absurd (by rw [show i2 = 6 by omega]; decide) c_5
      have E : (f_X0_letStampsFall_L2 p0 0 i2 w2_0) = w2_0 := rfl
      rw [E] at kx
      exact kx _ _ _ hP hD hS (lv_sub hl [1, 2] rfl)
    | succ n2 ih2 =>
      intro i2 hin2 w2_0 H locs ls hat hP hD hS hl kx
      refine lv_iload_n hx hb dX0_letStampsFall_2 rfl (lv_at hl 0 rfl) ?_
      refine lv_bipush (v := (6 : Int32)) hx hb dX0_letStampsFall_3 (by decide) ?_
      refine lv_icmp_ge (tgt := 48) hx hb dX0_letStampsFall_5 (by decide) (fun c_5 => ?_) (fun c_5 => ?_)
      · exact absurd c_5 (nI_ge (a := i2) (b := 6) (by omega) (by omega))
      refine lv_iload_n hx hb dX0_letStampsFall_8 rfl (lv_at hl 2 rfl) ?_
      refine lv_iload_n hx hb dX0_letStampsFall_9 rfl (lv_at hl 0 rfl) ?_
      refine lv_ishr hx hb dX0_letStampsFall_10 ?_
      refine lv_iconst (v := (1 : Int32)) hx hb dX0_letStampsFall_11 (by decide) ?_
      refine lv_iand hx hb dX0_letStampsFall_12 ?_
      refine lv_if_eq (tgt := 42) hx hb dX0_letStampsFall_13 (by decide) (fun c_13 => ?_) (fun c_13 => ?_)
      · refine lv_iinc (v := (nI (i2 + 1))) (lv' := [(2, .int (nI (i2 + 1))), (0, .ref (q 0)), (1, .int p0)]) hx hb dX0_letStampsFall_42 hl (k := 0) rfl (nI_1 i2) (by decide) rfl (fun ls hl => ?_)
        refine lv_goto (tgt := 2) hx hb dX0_letStampsFall_45 (by decide) ?_
        have E : (f_X0_letStampsFall_L2 p0 (n2 + 1) i2 w2_0) = (f_X0_letStampsFall_L2 p0 n2 (i2 + 1) w2_0) := (if_pos c_13).trans rfl
        rw [E] at kx
        exact ih2 (i2 + 1) (by omega) w2_0 _ _ _ hat hP hD hS (lv_sub hl [0, 1, 2] rfl) kx
      · refine lv_aload_n hx hb dX0_letStampsFall_16 rfl (lv_at hl 1 rfl) ?_
        refine lv_iload_n hx hb dX0_letStampsFall_17 rfl (lv_at hl 0 rfl) ?_
        refine zcVv (n := 1) (As := [.int (nI i2)]) (rest := []) (Xr := []) (Xn := (ck g q (s_X0_letStampsFall_18 i2 w2_0))) (ci := 0) (C := RX0) (T := TX0) (N := 13) (q0 := 0) hx hb hml hown hts hN (m_X0_letStampFall l g q w2_0 (nI i2) (vp_in_nI (by omega) (by omega))) gX0_letStampsFall_X0_letStampFall rfl (by decide +kernel) ⟨rfl, rfl⟩ ⟨Nat.le_of_ble_eq_true rfl, Nat.le_of_ble_eq_true rfl⟩ hK hP hD hS hA (zpn _) rfl rfl rfl hl.1 rfl (Nat.le_of_ble_eq_true rfl) dX0_letStampsFall_18 ⟨Nat.zero_le _, Nat.zero_le _⟩ (zpn' _) (fun H locs hP hD hS => ?_)
        refine lv_aload_n hx hb dX0_letStampsFall_21 rfl (lv_at hl 1 rfl) ?_
        refine va_get (D := g.1) (ci := 0) (v := .ref (q 2)) (C := RX0) (T := TX0) (N := 13) hx hb hts (zin_X0_letStampsFall_X0) hown hK hP 0 rfl rfl 1 (by decide) (hts (.fieldLink RX0 18 "PegClerks$Clerk" "drum" "LPegClerks$Drum;") (by decide +kernel)) (fun _ h9 => h9) rfl dX0_letStampsFall_22 ?_
        refine lv_aload_n hx hb dX0_letStampsFall_25 rfl (lv_at hl 1 rfl) ?_
        refine va_get (D := g.1) (ci := 0) (v := .ref (q 2)) (C := RX0) (T := TX0) (N := 13) hx hb hts (zin_X0_letStampsFall_X0) hown hK hP 0 rfl rfl 1 (by decide) (hts (.fieldLink RX0 18 "PegClerks$Clerk" "drum" "LPegClerks$Drum;") (by decide +kernel)) (fun _ h9 => h9) rfl dX0_letStampsFall_26 ?_
        refine va_get (D := g.1) (ci := 1) (v := .int ((s_X0_letStampsFall_18 i2 w2_0).1 4)) (C := RX1) (T := TX1) (N := 4) hx hb hts (zin_X0_letStampsFall_X1) hown hK hP 2 rfl rfl 2 (by decide) (hts (.fieldLink RX0 82 "PegClerks$Drum" "at" "I") (by decide +kernel)) (fun _ h9 => h9) rfl dX0_letStampsFall_29 ?_
        refine lv_iload_n hx hb dX0_letStampsFall_32 rfl (lv_at hl 0 rfl) ?_
        refine lv_aload_n hx hb dX0_letStampsFall_33 rfl (lv_at hl 1 rfl) ?_
        refine va_get (D := g.1) (ci := 0) (v := .ref (q 1)) (C := RX0) (T := TX0) (N := 13) hx hb hts (zin_X0_letStampsFall_X0) hown hK hP 0 rfl rfl 0 (by decide) (hts (.fieldLink RX0 9 "PegClerks$Clerk" "settings" "[I") (by decide +kernel)) (fun _ h9 => h9) rfl dX0_letStampsFall_34 ?_
        refine lv_iconst (v := (2 : Int32)) hx hb dX0_letStampsFall_37 (by decide) ?_
        refine z_iald (f := ((s_X0_letStampsFall_18 i2 w2_0).2 0)) (k := 2) hx hb hK hP 1 0 rfl rfl (zlit (2 : Int32) 4 (by decide +kernel)) (by decide +kernel) dX0_letStampsFall_38 ?_
        refine zcVv (n := 3) (As := [.int ((s_X0_letStampsFall_18 i2 w2_0).1 4), .int (nI i2), .int (((s_X0_letStampsFall_18 i2 w2_0).2 0) 2)]) (rest := []) (Xr := []) (Xn := (ck g q (s_X0_letStampsFall_39 i2 w2_0))) (ci := 1) (C := RX1) (T := TX1) (N := 4) (q0 := 2) hx hb hml hown hts hN (m_X1_wearPeg l g q (s_X0_letStampsFall_18 i2 w2_0) ((s_X0_letStampsFall_18 i2 w2_0).1 4) (nI i2) (((s_X0_letStampsFall_18 i2 w2_0).2 0) 2) (zat_lsf hat) (vp_in_nI (by omega) (by omega))) gX0_letStampsFall_X1_wearPeg rfl (by decide +kernel) ⟨rfl, rfl⟩ ⟨Nat.le_of_ble_eq_true rfl, Nat.le_of_ble_eq_true rfl⟩ hK hP hD hS hA (zpn _) rfl rfl rfl hl.1 rfl (Nat.le_of_ble_eq_true rfl) dX0_letStampsFall_39 ⟨Nat.zero_le _, Nat.zero_le _⟩ (zpn' _) (fun H locs hP hD hS => ?_)
        refine lv_iinc (v := (nI (i2 + 1))) (lv' := [(2, .int (nI (i2 + 1))), (0, .ref (q 0)), (1, .int p0)]) hx hb dX0_letStampsFall_42 hl (k := 0) rfl (nI_1 i2) (by decide) rfl (fun ls hl => ?_)
        refine lv_goto (tgt := 2) hx hb dX0_letStampsFall_45 (by decide) ?_
        have E : (f_X0_letStampsFall_L2 p0 (n2 + 1) i2 w2_0) = (f_X0_letStampsFall_L2 p0 n2 (i2 + 1) (s_X0_letStampsFall_39 i2 w2_0)) := (if_neg c_13).trans rfl
        rw [E] at kx
        exact ih2 (i2 + 1) (by omega) (s_X0_letStampsFall_39 i2 w2_0) _ _ _ (zat_wear (zat_lsf hat)) hP hD hS (lv_sub hl [0, 1, 2] rfl) kx
  refine L2 6 0 (by omega) v _ _ _ hat hP hD hS (lv_sub hl [0, 1, 2] rfl) (fun H locs ls hP hD hS hl => ?_)
  have E : (f_X0_letStampsFall v p0) = (f_X0_letStampsFall_L2 p0 6 0 v) := rfl
  exact hret _ _ _ _ _ dX0_letStampsFall_48 (congrArg (fun z => (ck g q z)) E).symm hP hD hS
abbrev rm_X0_makeOneStep : Room := { frames := 3, cells := 0, slots := 0, locals := 65 }
set_option maxRecDepth 20000 in
theorem zin_X0_makeOneStep_X0 : ∀ w ∈ wsX00, w ∈ wsX0_makeOneStep := by decide +kernel
set_option maxRecDepth 20000 in
theorem zin_X0_makeOneStep_X1 : ∀ w ∈ wsX10, w ∈ wsX0_makeOneStep := by decide +kernel
def r_X0_makeOneStep_17 (v : zCV) : Int32 := (f_X0_wouldJamAt v (v.1 4))
def s_X0_makeOneStep_56 (v : zCV) : zCV := (f_X0_letStampsFall v ((v.2 1) (v.1 4).toNatClampNeg))
def s_X0_makeOneStep_63 (v : zCV) : zCV := (f_X1_goOn (s_X0_makeOneStep_56 v))
def s_X0_makeOneStep_73 (v : zCV) : zCV := zS (s_X0_makeOneStep_63 v) 10 (((s_X0_makeOneStep_63 v).1 10) + (1 : Int32))
def s_X0_makeOneStep_83 (v : zCV) : zCV := zS (s_X0_makeOneStep_73 v) 9 (((s_X0_makeOneStep_73 v).1 9) + (1 : Int32))
def s_X0_makeOneStep_100 (v : zCV) : zCV := (f_X0_finishForm (s_X0_makeOneStep_83 v))
def s_X0_makeOneStep_25 (v : zCV) : zCV := zS v 5 (1 : Int32)
def s_X0_makeOneStep_35 (v : zCV) : zCV := zS (s_X0_makeOneStep_25 v) 14 (((s_X0_makeOneStep_25 v).1 14) + (1 : Int32))
def f_X0_makeOneStep (v : zCV) : Int32 × zCV := if (v.1 5) = (0 : Int32) then (if (r_X0_makeOneStep_17 v) = (0 : Int32) then (if ((s_X0_makeOneStep_83 v).1 9) < (((s_X0_makeOneStep_83 v).2 0) 0) then (((1 : Int32), (s_X0_makeOneStep_83 v))) else (((1 : Int32), (s_X0_makeOneStep_100 v)))) else (((0 : Int32), (s_X0_makeOneStep_35 v)))) else (((0 : Int32), v))
set_option maxRecDepth 100000 in
set_option maxHeartbeats 4000000 in
theorem m_X0_makeOneStep (l : Launch) (g : zG) (q : Nat → Nat) (v : zCV) (hat : vp_in (v.1 4) 16) : ZI l yX0_makeOneStep wsX0_makeOneStep rm_X0_makeOneStep g (ck g q v) [.ref (q 0)] (f_X0_makeOneStep v).1 (ck g q (f_X0_makeOneStep v).2) := by
  refine zopenI (cc := cX0_makeOneStep) (maxL := 1) (ret := .boolean) (by decide +kernel) rfl (Nat.le_of_ble_eq_true rfl) ?_
  intro p e s m below meth c A Q ls hx hb hml hown hts hP hK hD hA hN hl hret
  have hS : va_S A s.heap s.heap [] := va_S.rf
  have hl : lv_has ls 1 [(0, .ref (q 0))] := hl
  have hown : s.vm.findClass RX0 = some m.cls := hown
  refine lv_aload_n hx hb dX0_makeOneStep_0 rfl (lv_at hl 0 rfl) ?_
  refine va_get (D := g.1) (ci := 0) (v := .int (v.1 5)) (C := RX0) (T := TX0) (N := 13) hx hb hts (zin_X0_makeOneStep_X0) hown hK hP 0 rfl rfl 3 (by decide) (hts (.fieldLink RX0 42 "PegClerks$Clerk" "jammed" "Z") (by decide +kernel)) (fun _ h9 => h9) rfl dX0_makeOneStep_1 ?_
  refine lv_if_eq (tgt := 9) hx hb dX0_makeOneStep_4 (by decide) (fun c_4 => ?_) (fun c_4 => ?_)
  · refine lv_aload_n hx hb dX0_makeOneStep_9 rfl (lv_at hl 0 rfl) ?_
    refine lv_aload_n hx hb dX0_makeOneStep_10 rfl (lv_at hl 0 rfl) ?_
    refine va_get (D := g.1) (ci := 0) (v := .ref (q 2)) (C := RX0) (T := TX0) (N := 13) hx hb hts (zin_X0_makeOneStep_X0) hown hK hP 0 rfl rfl 1 (by decide) (hts (.fieldLink RX0 18 "PegClerks$Clerk" "drum" "LPegClerks$Drum;") (by decide +kernel)) (fun _ h9 => h9) rfl dX0_makeOneStep_11 ?_
    refine va_get (D := g.1) (ci := 1) (v := .int (v.1 4)) (C := RX1) (T := TX1) (N := 4) hx hb hts (zin_X0_makeOneStep_X1) hown hK hP 2 rfl rfl 2 (by decide) (hts (.fieldLink RX0 82 "PegClerks$Drum" "at" "I") (by decide +kernel)) (fun _ h9 => h9) rfl dX0_makeOneStep_14 ?_
    refine zcVi (n := 1) (As := [.int (v.1 4)]) (rest := []) (Xr := []) (Xn := (ck g q v)) (ci := 0) (C := RX0) (T := TX0) (N := 13) (q0 := 0) hx hb hml hown hts hN (m_X0_wouldJamAt l g q v (v.1 4) hat) gX0_makeOneStep_X0_wouldJamAt rfl (by decide +kernel) ⟨rfl, rfl⟩ ⟨Nat.le_of_ble_eq_true rfl, Nat.le_of_ble_eq_true rfl⟩ hK hP hD hS hA (zpn _) rfl rfl rfl hl.1 rfl (Nat.le_of_ble_eq_true rfl) dX0_makeOneStep_17 ⟨Nat.zero_le _, Nat.zero_le _⟩ (zpn' _) (fun H locs hP hD hS => ?_)
    refine lv_if_eq (tgt := 40) hx hb dX0_makeOneStep_20 (by decide) (fun c_20 => ?_) (fun c_20 => ?_)
    · refine lv_aload_n hx hb dX0_makeOneStep_40 rfl (lv_at hl 0 rfl) ?_
      refine lv_aload_n hx hb dX0_makeOneStep_41 rfl (lv_at hl 0 rfl) ?_
      refine va_get (D := g.1) (ci := 0) (v := .ref (q 2)) (C := RX0) (T := TX0) (N := 13) hx hb hts (zin_X0_makeOneStep_X0) hown hK hP 0 rfl rfl 1 (by decide) (hts (.fieldLink RX0 18 "PegClerks$Clerk" "drum" "LPegClerks$Drum;") (by decide +kernel)) (fun _ h9 => h9) rfl dX0_makeOneStep_42 ?_
      refine va_get (D := g.1) (ci := 1) (v := .ref (q 3)) (C := RX1) (T := TX1) (N := 4) hx hb hts (zin_X0_makeOneStep_X1) hown hK hP 2 rfl rfl 0 (by decide) (hts (.fieldLink RX0 89 "PegClerks$Drum" "rows" "[I") (by decide +kernel)) (fun _ h9 => h9) rfl dX0_makeOneStep_45 ?_
      refine lv_aload_n hx hb dX0_makeOneStep_48 rfl (lv_at hl 0 rfl) ?_
      refine va_get (D := g.1) (ci := 0) (v := .ref (q 2)) (C := RX0) (T := TX0) (N := 13) hx hb hts (zin_X0_makeOneStep_X0) hown hK hP 0 rfl rfl 1 (by decide) (hts (.fieldLink RX0 18 "PegClerks$Clerk" "drum" "LPegClerks$Drum;") (by decide +kernel)) (fun _ h9 => h9) rfl dX0_makeOneStep_49 ?_
      refine va_get (D := g.1) (ci := 1) (v := .int (v.1 4)) (C := RX1) (T := TX1) (N := 4) hx hb hts (zin_X0_makeOneStep_X1) hown hK hP 2 rfl rfl 2 (by decide) (hts (.fieldLink RX0 82 "PegClerks$Drum" "at" "I") (by decide +kernel)) (fun _ h9 => h9) rfl dX0_makeOneStep_52 ?_
      refine z_iald (f := (v.2 1)) (k := (v.1 4).toNatClampNeg) hx hb hK hP 3 0 rfl rfl hat rfl dX0_makeOneStep_55 ?_
      refine zcVv (n := 1) (As := [.int ((v.2 1) (v.1 4).toNatClampNeg)]) (rest := []) (Xr := []) (Xn := (ck g q (s_X0_makeOneStep_56 v))) (ci := 0) (C := RX0) (T := TX0) (N := 13) (q0 := 0) hx hb hml hown hts hN (m_X0_letStampsFall l g q v ((v.2 1) (v.1 4).toNatClampNeg) hat) gX0_makeOneStep_X0_letStampsFall rfl (by decide +kernel) ⟨rfl, rfl⟩ ⟨Nat.le_of_ble_eq_true rfl, Nat.le_of_ble_eq_true rfl⟩ hK hP hD hS hA (zpn _) rfl rfl rfl hl.1 rfl (Nat.le_of_ble_eq_true rfl) dX0_makeOneStep_56 ⟨Nat.zero_le _, Nat.zero_le _⟩ (zpn' _) (fun H locs hP hD hS => ?_)
      refine lv_aload_n hx hb dX0_makeOneStep_59 rfl (lv_at hl 0 rfl) ?_
      refine va_get (D := g.1) (ci := 0) (v := .ref (q 2)) (C := RX0) (T := TX0) (N := 13) hx hb hts (zin_X0_makeOneStep_X0) hown hK hP 0 rfl rfl 1 (by decide) (hts (.fieldLink RX0 18 "PegClerks$Clerk" "drum" "LPegClerks$Drum;") (by decide +kernel)) (fun _ h9 => h9) rfl dX0_makeOneStep_60 ?_
      refine zcVv (n := 0) (As := []) (rest := []) (Xr := []) (Xn := (ck g q (s_X0_makeOneStep_63 v))) (ci := 1) (C := RX1) (T := TX1) (N := 4) (q0 := 2) hx hb hml hown hts hN (m_X1_goOn l g q (s_X0_makeOneStep_56 v) ) gX0_makeOneStep_X1_goOn rfl (by decide +kernel) ⟨rfl, rfl⟩ ⟨Nat.le_of_ble_eq_true rfl, Nat.le_of_ble_eq_true rfl⟩ hK hP hD hS hA (zpn _) rfl rfl rfl hl.1 rfl (Nat.le_of_ble_eq_true rfl) dX0_makeOneStep_63 ⟨Nat.zero_le _, Nat.zero_le _⟩ (zpn' _) (fun H locs hP hD hS => ?_)
      refine lv_aload_n hx hb dX0_makeOneStep_66 rfl (lv_at hl 0 rfl) ?_
      refine lv_dup hx hb dX0_makeOneStep_67 rfl ?_
      refine va_get (D := g.1) (ci := 0) (v := .int ((s_X0_makeOneStep_63 v).1 10)) (C := RX0) (T := TX0) (N := 13) hx hb hts (zin_X0_makeOneStep_X0) hown hK hP 0 rfl rfl 8 (by decide) (hts (.fieldLink RX0 59 "PegClerks$Clerk" "steps" "I") (by decide +kernel)) (fun _ h9 => h9) rfl dX0_makeOneStep_68 ?_
      refine lv_iconst (v := (1 : Int32)) hx hb dX0_makeOneStep_71 (by decide) ?_
      refine lv_iadd hx hb dX0_makeOneStep_72 ?_
      refine va_put (D := g.1) (ci := 0) (v := .int (((s_X0_makeOneStep_63 v).1 10) + (1 : Int32))) (ty := .int) (C := RX0) (T := TX0) (N := 13) hx hb hts (zin_X0_makeOneStep_X0) tyX0 tyX0_ok nmX0 hown hK hP hD hS 0 rfl rfl 8 (by decide) (hts (.fieldLink RX0 59 "PegClerks$Clerk" "steps" "I") (by decide +kernel)) (fun _ h9 => h9) rfl (by decide +kernel) rfl rfl (Nat.le_of_ble_eq_true rfl) dX0_makeOneStep_73 (fun H locs hP hD hS => ?_)
      have hP : va_P g.1 vwCl (ck g q (s_X0_makeOneStep_73 v)) H := (congrArg (fun z => va_P g.1 vwCl z H) (ck_S10 g q (s_X0_makeOneStep_63 v) (((s_X0_makeOneStep_63 v).1 10) + (1 : Int32)))).mp hP
      have hD : va_D A (ck g q (s_X0_makeOneStep_73 v)) := (congrArg (fun z => va_D A z) (ck_S10 g q (s_X0_makeOneStep_63 v) (((s_X0_makeOneStep_63 v).1 10) + (1 : Int32)))).mp hD
      refine lv_aload_n hx hb dX0_makeOneStep_76 rfl (lv_at hl 0 rfl) ?_
      refine lv_dup hx hb dX0_makeOneStep_77 rfl ?_
      refine va_get (D := g.1) (ci := 0) (v := .int ((s_X0_makeOneStep_73 v).1 9)) (C := RX0) (T := TX0) (N := 13) hx hb hts (zin_X0_makeOneStep_X0) hown hK hP 0 rfl rfl 7 (by decide) (hts (.fieldLink RX0 56 "PegClerks$Clerk" "formSteps" "I") (by decide +kernel)) (fun _ h9 => h9) rfl dX0_makeOneStep_78 ?_
      refine lv_iconst (v := (1 : Int32)) hx hb dX0_makeOneStep_81 (by decide) ?_
      refine lv_iadd hx hb dX0_makeOneStep_82 ?_
      refine va_put (D := g.1) (ci := 0) (v := .int (((s_X0_makeOneStep_73 v).1 9) + (1 : Int32))) (ty := .int) (C := RX0) (T := TX0) (N := 13) hx hb hts (zin_X0_makeOneStep_X0) tyX0 tyX0_ok nmX0 hown hK hP hD hS 0 rfl rfl 7 (by decide) (hts (.fieldLink RX0 56 "PegClerks$Clerk" "formSteps" "I") (by decide +kernel)) (fun _ h9 => h9) rfl (by decide +kernel) rfl rfl (Nat.le_of_ble_eq_true rfl) dX0_makeOneStep_83 (fun H locs hP hD hS => ?_)
      have hP : va_P g.1 vwCl (ck g q (s_X0_makeOneStep_83 v)) H := (congrArg (fun z => va_P g.1 vwCl z H) (ck_S9 g q (s_X0_makeOneStep_73 v) (((s_X0_makeOneStep_73 v).1 9) + (1 : Int32)))).mp hP
      have hD : va_D A (ck g q (s_X0_makeOneStep_83 v)) := (congrArg (fun z => va_D A z) (ck_S9 g q (s_X0_makeOneStep_73 v) (((s_X0_makeOneStep_73 v).1 9) + (1 : Int32)))).mp hD
      refine lv_aload_n hx hb dX0_makeOneStep_86 rfl (lv_at hl 0 rfl) ?_
      refine va_get (D := g.1) (ci := 0) (v := .int ((s_X0_makeOneStep_83 v).1 9)) (C := RX0) (T := TX0) (N := 13) hx hb hts (zin_X0_makeOneStep_X0) hown hK hP 0 rfl rfl 7 (by decide) (hts (.fieldLink RX0 56 "PegClerks$Clerk" "formSteps" "I") (by decide +kernel)) (fun _ h9 => h9) rfl dX0_makeOneStep_87 ?_
      refine lv_aload_n hx hb dX0_makeOneStep_90 rfl (lv_at hl 0 rfl) ?_
      refine va_get (D := g.1) (ci := 0) (v := .ref (q 1)) (C := RX0) (T := TX0) (N := 13) hx hb hts (zin_X0_makeOneStep_X0) hown hK hP 0 rfl rfl 0 (by decide) (hts (.fieldLink RX0 9 "PegClerks$Clerk" "settings" "[I") (by decide +kernel)) (fun _ h9 => h9) rfl dX0_makeOneStep_91 ?_
      refine lv_iconst (v := (0 : Int32)) hx hb dX0_makeOneStep_94 (by decide) ?_
      refine z_iald (f := ((s_X0_makeOneStep_83 v).2 0)) (k := 0) hx hb hK hP 1 0 rfl rfl (zlit (0 : Int32) 4 (by decide +kernel)) (by decide +kernel) dX0_makeOneStep_95 ?_
      refine lv_icmp_lt (tgt := 103) hx hb dX0_makeOneStep_96 (by decide) (fun c_96 => ?_) (fun c_96 => ?_)
      · refine lv_iconst (v := (1 : Int32)) hx hb dX0_makeOneStep_103 (by decide) ?_
        have E : (f_X0_makeOneStep v) = ((1 : Int32), (s_X0_makeOneStep_83 v)) := (if_pos c_4).trans ((if_pos c_20).trans ((if_pos c_96).trans rfl))
        exact hret _ _ _ _ _ _ dX0_makeOneStep_104 (congrArg Prod.fst E).symm (rfl) (congrArg (fun z => (ck g q z.2)) E).symm hP hD hS
      · refine lv_aload_n hx hb dX0_makeOneStep_99 rfl (lv_at hl 0 rfl) ?_
        refine zcVv (n := 0) (As := []) (rest := []) (Xr := []) (Xn := (ck g q (s_X0_makeOneStep_100 v))) (ci := 0) (C := RX0) (T := TX0) (N := 13) (q0 := 0) hx hb hml hown hts hN (m_X0_finishForm l g q (s_X0_makeOneStep_83 v) ) gX0_makeOneStep_X0_finishForm rfl (by decide +kernel) ⟨rfl, rfl⟩ ⟨Nat.le_of_ble_eq_true rfl, Nat.le_of_ble_eq_true rfl⟩ hK hP hD hS hA (zpn _) rfl rfl rfl hl.1 rfl (Nat.le_of_ble_eq_true rfl) dX0_makeOneStep_100 ⟨Nat.zero_le _, Nat.zero_le _⟩ (zpn' _) (fun H locs hP hD hS => ?_)
        refine lv_iconst (v := (1 : Int32)) hx hb dX0_makeOneStep_103 (by decide) ?_
        have E : (f_X0_makeOneStep v) = ((1 : Int32), (s_X0_makeOneStep_100 v)) := (if_pos c_4).trans ((if_pos c_20).trans ((if_neg c_96).trans rfl))
        exact hret _ _ _ _ _ _ dX0_makeOneStep_104 (congrArg Prod.fst E).symm (rfl) (congrArg (fun z => (ck g q z.2)) E).symm hP hD hS
    · refine lv_aload_n hx hb dX0_makeOneStep_23 rfl (lv_at hl 0 rfl) ?_
      refine lv_iconst (v := (1 : Int32)) hx hb dX0_makeOneStep_24 (by decide) ?_
      refine va_put (D := g.1) (ci := 0) (v := .int (1 : Int32)) (ty := .boolean) (C := RX0) (T := TX0) (N := 13) hx hb hts (zin_X0_makeOneStep_X0) tyX0 tyX0_ok nmX0 hown hK hP hD hS 0 rfl rfl 3 (by decide) (hts (.fieldLink RX0 42 "PegClerks$Clerk" "jammed" "Z") (by decide +kernel)) (fun _ h9 => h9) rfl (by decide +kernel) rfl rfl (Nat.le_of_ble_eq_true rfl) dX0_makeOneStep_25 (fun H locs hP hD hS => ?_)
      have hP : va_P g.1 vwCl (ck g q (s_X0_makeOneStep_25 v)) H := (congrArg (fun z => va_P g.1 vwCl z H) (ck_S5 g q v (1 : Int32))).mp hP
      have hD : va_D A (ck g q (s_X0_makeOneStep_25 v)) := (congrArg (fun z => va_D A z) (ck_S5 g q v (1 : Int32))).mp hD
      refine lv_aload_n hx hb dX0_makeOneStep_28 rfl (lv_at hl 0 rfl) ?_
      refine lv_dup hx hb dX0_makeOneStep_29 rfl ?_
      refine va_get (D := g.1) (ci := 0) (v := .int ((s_X0_makeOneStep_25 v).1 14)) (C := RX0) (T := TX0) (N := 13) hx hb hts (zin_X0_makeOneStep_X0) hown hK hP 0 rfl rfl 12 (by decide) (hts (.fieldLink RX0 71 "PegClerks$Clerk" "jams" "I") (by decide +kernel)) (fun _ h9 => h9) rfl dX0_makeOneStep_30 ?_
      refine lv_iconst (v := (1 : Int32)) hx hb dX0_makeOneStep_33 (by decide) ?_
      refine lv_iadd hx hb dX0_makeOneStep_34 ?_
      refine va_put (D := g.1) (ci := 0) (v := .int (((s_X0_makeOneStep_25 v).1 14) + (1 : Int32))) (ty := .int) (C := RX0) (T := TX0) (N := 13) hx hb hts (zin_X0_makeOneStep_X0) tyX0 tyX0_ok nmX0 hown hK hP hD hS 0 rfl rfl 12 (by decide) (hts (.fieldLink RX0 71 "PegClerks$Clerk" "jams" "I") (by decide +kernel)) (fun _ h9 => h9) rfl (by decide +kernel) rfl rfl (Nat.le_of_ble_eq_true rfl) dX0_makeOneStep_35 (fun H locs hP hD hS => ?_)
      have hP : va_P g.1 vwCl (ck g q (s_X0_makeOneStep_35 v)) H := (congrArg (fun z => va_P g.1 vwCl z H) (ck_S14 g q (s_X0_makeOneStep_25 v) (((s_X0_makeOneStep_25 v).1 14) + (1 : Int32)))).mp hP
      have hD : va_D A (ck g q (s_X0_makeOneStep_35 v)) := (congrArg (fun z => va_D A z) (ck_S14 g q (s_X0_makeOneStep_25 v) (((s_X0_makeOneStep_25 v).1 14) + (1 : Int32)))).mp hD
      refine lv_iconst (v := (0 : Int32)) hx hb dX0_makeOneStep_38 (by decide) ?_
      have E : (f_X0_makeOneStep v) = ((0 : Int32), (s_X0_makeOneStep_35 v)) := (if_pos c_4).trans ((if_neg c_20).trans rfl)
      exact hret _ _ _ _ _ _ dX0_makeOneStep_39 (congrArg Prod.fst E).symm (rfl) (congrArg (fun z => (ck g q z.2)) E).symm hP hD hS
  · refine lv_iconst (v := (0 : Int32)) hx hb dX0_makeOneStep_7 (by decide) ?_
    have E : (f_X0_makeOneStep v) = ((0 : Int32), v) := (if_neg c_4).trans rfl
    exact hret _ _ _ _ _ _ dX0_makeOneStep_8 (congrArg Prod.fst E).symm (rfl) (congrArg (fun z => (ck g q z.2)) E).symm hP hD hS
theorem zat_lsfL {p : Int32} : ∀ (n i : Nat) (w : zCV), (f_X0_letStampsFall_L2 p n i w).1 4 = w.1 4
  | 0, i, w => rfl
  | n + 1, i, w => by
    have e1 : (s_X0_letStampsFall_39 i w).1 4 = w.1 4 := (eat_wear _ _ _ _).trans (eat_lsf _ _)
    unfold f_X0_letStampsFall_L2
    split
    · exact zat_lsfL n (i + 1) w
    · rw [zat_lsfL n (i + 1), e1]
theorem zin_rb {x : Int32} (h : vp_in x 16) : vp_in (f_X1_rowBehind x) 16 := by
  obtain ⟨r, hr, rfl⟩ := vp_in_of h (by omega)
  unfold f_X1_rowBehind
  split
  · rename_i c
    have h1 : r < 15 := (nI_ltI (a := r) (b := 15) (by omega) (by omega)).mp c
    exact vp_in_iff.mpr (by rw [nI_1, nI_toInt (by omega)]; omega)
  · exact zlit _ 16 (by decide +kernel)
theorem eat_fin (v : zCV) : (f_X0_finishForm v).1 4 = v.1 4 := by
  unfold f_X0_finishForm
  repeat' split
  all_goals rfl
theorem zat_one {v : zCV} (h : vp_in (v.1 4) 16) : vp_in ((f_X0_makeOneStep v).2.1 4) 16 := by
  have e0 : (s_X0_makeOneStep_56 v).1 4 = v.1 4 := zat_lsfL _ _ _
  have e1 : vp_in ((s_X0_makeOneStep_83 v).1 4) 16 := by
    show vp_in (f_X1_rowBehind ((s_X0_makeOneStep_56 v).1 4)) 16
    rw [e0]; exact zin_rb h
  unfold f_X0_makeOneStep
  repeat' split
  all_goals first | exact h | exact e1 | (show vp_in ((f_X0_finishForm (s_X0_makeOneStep_83 v)).1 4) 16; rw [eat_fin]; exact e1)

abbrev rm_X0_makeSteps : Room := { frames := 4, cells := 0, slots := 0, locals := 85 }
def r_X0_makeSteps_8 (w2_0 : zCV) : Int32 × zCV := (f_X0_makeOneStep w2_0)
def f_X0_makeSteps_L2  : Nat → Nat → zCV → Int32 × zCV
  | 0, i2, w2_0 => ((nI i2), w2_0)
  | n2 + 1, i2, w2_0 => if ((r_X0_makeSteps_8 w2_0).1) = (0 : Int32) then (((nI i2), (r_X0_makeSteps_8 w2_0).2)) else ((f_X0_makeSteps_L2 n2 (i2 + 1) (r_X0_makeSteps_8 w2_0).2))
def f_X0_makeSteps (v : zCV) (p0 : Int32) : Int32 × zCV := ((f_X0_makeSteps_L2 p0.toNatClampNeg 0 v).1, (f_X0_makeSteps_L2 p0.toNatClampNeg 0 v).2)
set_option maxRecDepth 100000 in
set_option maxHeartbeats 4000000 in
theorem m_X0_makeSteps (l : Launch) (g : zG) (q : Nat → Nat) (v : zCV) (p0 : Int32) (hat : vp_in (v.1 4) 16) : ZI l yX0_makeSteps wsX0_makeSteps rm_X0_makeSteps g (ck g q v) [.ref (q 0), .int p0] (f_X0_makeSteps v p0).1 (ck g q (f_X0_makeSteps v p0).2) := by
  refine zopenI (cc := cX0_makeSteps) (maxL := 3) (ret := .int) (by decide +kernel) rfl (Nat.le_of_ble_eq_true rfl) ?_
  intro p e s m below meth c A Q ls hx hb hml hown hts hP hK hD hA hN hl hret
  have hS : va_S A s.heap s.heap [] := va_S.rf
  have hl : lv_has ls 3 [(0, .ref (q 0)), (1, .int p0)] := hl
  have hown : s.vm.findClass RX0 = some m.cls := hown
  refine lv_iconst (v := (0 : Int32)) hx hb dX0_makeSteps_0 (by decide) ?_
  refine lv_istore_n (lv' := [(2, .int (0 : Int32)), (0, .ref (q 0)), (1, .int p0)]) hx hb dX0_makeSteps_1 rfl hl (by decide) rfl (fun ls hl => ?_)
  have L2 : ∀ (n2 : Nat) (i2 : Nat), i2 + n2 = p0.toNatClampNeg → ∀ (w2_0 : zCV) (H : Heap) (locs : List Loc) (ls : Array Slot), vp_in (w2_0.1 4) 16 → va_P g.1 vwCl (ck g q w2_0) H → va_D A (ck g q w2_0) → va_S A s.heap H locs → lv_has ls 3 [(2, .int (nI i2)), (0, .ref (q 0)), (1, .int p0)] → (∀ (H : Heap) (locs : List Loc) (ls : Array Slot), va_P g.1 vwCl (ck g q (f_X0_makeSteps_L2 n2 i2 w2_0).2) H → va_D A (ck g q (f_X0_makeSteps_L2 n2 i2 w2_0).2) → va_S A s.heap H locs → lv_has ls 3 [(2, .int (f_X0_makeSteps_L2 n2 i2 w2_0).1), (0, .ref (q 0)), (1, .int p0)] → W p l e rm_X0_makeSteps s m ([.ref (q 0), .int p0] : List Value).toArray below meth c H locs 0 0 Q (F0 m 20 ls [])) → W p l e rm_X0_makeSteps s m ([.ref (q 0), .int p0] : List Value).toArray below meth c H locs 0 0 Q (F0 m 2 ls []) := by
    intro n2
    induction n2 with
    | zero =>
      intro i2 hin2 w2_0 H locs ls hat hP hD hS hl kx
      refine lv_iload_n hx hb dX0_makeSteps_2 rfl (lv_at hl 0 rfl) ?_
      refine lv_iload_n hx hb dX0_makeSteps_3 rfl (lv_at hl 2 rfl) ?_
      refine lv_icmp_ge (tgt := 20) hx hb dX0_makeSteps_4 (by decide) (fun c_4 => ?_) (fun c_4 => ?_)
      rotate_left
      · exact absurd (zge0 (by omega)) c_4
      have E : (f_X0_makeSteps_L2 0 i2 w2_0) = ((nI i2), w2_0) := rfl
      rw [E] at kx
      exact kx _ _ _ hP hD hS (lv_sub hl [0, 1, 2] rfl)
    | succ n2 ih2 =>
      intro i2 hin2 w2_0 H locs ls hat hP hD hS hl kx
      refine lv_iload_n hx hb dX0_makeSteps_2 rfl (lv_at hl 0 rfl) ?_
      refine lv_iload_n hx hb dX0_makeSteps_3 rfl (lv_at hl 2 rfl) ?_
      refine lv_icmp_ge (tgt := 20) hx hb dX0_makeSteps_4 (by decide) (fun c_4 => ?_) (fun c_4 => ?_)
      · exact absurd c_4 (zge1 (by omega))
      refine lv_aload_n hx hb dX0_makeSteps_7 rfl (lv_at hl 1 rfl) ?_
      refine zcVi (n := 0) (As := []) (rest := []) (Xr := []) (Xn := (ck g q (r_X0_makeSteps_8 w2_0).2)) (ci := 0) (C := RX0) (T := TX0) (N := 13) (q0 := 0) hx hb hml hown hts hN (m_X0_makeOneStep l g q w2_0 hat) gX0_makeSteps_X0_makeOneStep rfl (by decide +kernel) ⟨rfl, rfl⟩ ⟨Nat.le_of_ble_eq_true rfl, Nat.le_of_ble_eq_true rfl⟩ hK hP hD hS hA (zpn _) rfl rfl rfl hl.1 rfl (Nat.le_of_ble_eq_true rfl) dX0_makeSteps_8 ⟨Nat.zero_le _, Nat.zero_le _⟩ (zpn' _) (fun H locs hP hD hS => ?_)
      refine lv_if_eq (tgt := 20) hx hb dX0_makeSteps_11 (by decide) (fun c_11 => ?_) (fun c_11 => ?_)
      · have E : (f_X0_makeSteps_L2 (n2 + 1) i2 w2_0) = ((nI i2), (r_X0_makeSteps_8 w2_0).2) := (if_pos c_11).trans rfl
        rw [E] at kx
        exact kx _ _ _ hP hD hS (lv_sub hl [0, 1, 2] rfl)
      · refine lv_iinc (v := (nI (i2 + 1))) (lv' := [(2, .int (nI (i2 + 1))), (0, .ref (q 0)), (1, .int p0)]) hx hb dX0_makeSteps_14 hl (k := 0) rfl (nI_1 i2) (by decide) rfl (fun ls hl => ?_)
        refine lv_goto (tgt := 2) hx hb dX0_makeSteps_17 (by decide) ?_
        have E : (f_X0_makeSteps_L2 (n2 + 1) i2 w2_0) = (f_X0_makeSteps_L2 n2 (i2 + 1) (r_X0_makeSteps_8 w2_0).2) := (if_neg c_11).trans rfl
        rw [E] at kx
        exact ih2 (i2 + 1) (by omega) (r_X0_makeSteps_8 w2_0).2 _ _ _ (zat_one hat) hP hD hS (lv_sub hl [0, 1, 2] rfl) kx
  refine L2 p0.toNatClampNeg 0 (by omega) v _ _ _ hat hP hD hS (lv_sub hl [0, 1, 2] rfl) (fun H locs ls hP hD hS hl => ?_)
  refine lv_iload_n hx hb dX0_makeSteps_20 rfl (lv_at hl 0 rfl) ?_
  have E : (f_X0_makeSteps v p0) = ((f_X0_makeSteps_L2 p0.toNatClampNeg 0 v).1, (f_X0_makeSteps_L2 p0.toNatClampNeg 0 v).2) := rfl
  exact hret _ _ _ _ _ _ dX0_makeSteps_21 (congrArg Prod.fst E).symm (rfl) (congrArg (fun z => (ck g q z.2)) E).symm hP hD hS
end
section
abbrev rm_X6_in : Room := { frames := 0, cells := 0, slots := 0, locals := 0 }
def f_X6_in (p0 : Int64) (p1 : Int64) (p2 : Int64) : Int32 := if (lg_cmp p0 p1) < (0 : Int32) then ((0 : Int32)) else (if (0 : Int32) < (lg_cmp p0 p2) then ((0 : Int32)) else ((1 : Int32)))
set_option maxRecDepth 100000 in
set_option maxHeartbeats 4000000 in
theorem m_X6_in (l : Launch) (g : zG) (p0 : Int64) (p1 : Int64) (p2 : Int64) : ZI l yX6_in wsX6_in rm_X6_in g [] [.long p0, .long p1, .long p2] (f_X6_in p0 p1 p2) [] := by
  refine zopenI (cc := cX6_in) (maxL := 6) (ret := .boolean) (by decide +kernel) rfl (Nat.le_of_ble_eq_true rfl) ?_
  intro p e s m below meth c A Q ls hx hb hml hown hts hP hK hD hA hN hl hret
  have hS : va_S A s.heap s.heap [] := va_S.rf
  have hl : lv_has ls 6 [(0, .long p0), (2, .long p1), (4, .long p2)] := hl
  have hown : s.vm.findClass RX6 = some m.cls := hown
  refine lv_lload_n hx hb dX6_in_0 rfl (lv_at hl 0 rfl) ?_
  refine lv_lload_n hx hb dX6_in_1 rfl (lv_at hl 1 rfl) ?_
  refine W.lcmp hx hb dX6_in_2 ?_
  refine lv_if_lt (tgt := 17) hx hb dX6_in_3 (by decide) (fun c_3 => ?_) (fun c_3 => ?_)
  · refine lv_iconst (v := (0 : Int32)) hx hb dX6_in_17 (by decide) ?_
    have E : (f_X6_in p0 p1 p2) = (0 : Int32) := (if_pos c_3).trans rfl
    exact hret _ _ _ _ _ _ dX6_in_18 E.symm (rfl) rfl hP hD hS
  · refine lv_lload_n hx hb dX6_in_6 rfl (lv_at hl 0 rfl) ?_
    refine lv_lload hx hb dX6_in_7 (lv_at hl 2 rfl) ?_
    refine W.lcmp hx hb dX6_in_9 ?_
    refine lv_if_gt (tgt := 17) hx hb dX6_in_10 (by decide) (fun c_10 => ?_) (fun c_10 => ?_)
    · refine lv_iconst (v := (0 : Int32)) hx hb dX6_in_17 (by decide) ?_
      have E : (f_X6_in p0 p1 p2) = (0 : Int32) := (if_neg c_3).trans ((if_pos c_10).trans rfl)
      exact hret _ _ _ _ _ _ dX6_in_18 E.symm (rfl) rfl hP hD hS
    · refine lv_iconst (v := (1 : Int32)) hx hb dX6_in_13 (by decide) ?_
      refine lv_goto (tgt := 18) hx hb dX6_in_14 (by decide) ?_
      have E : (f_X6_in p0 p1 p2) = (1 : Int32) := (if_neg c_3).trans ((if_neg c_10).trans rfl)
      exact hret _ _ _ _ _ _ dX6_in_18 E.symm (rfl) rfl hP hD hS
theorem znar_in {a b c : Int64} : narrow .boolean (.int (f_X6_in a b c)) = .int (f_X6_in a b c) := by
  unfold f_X6_in
  repeat' split
  all_goals rfl
abbrev rm_X6_isRow : Room := { frames := 1, cells := 0, slots := 0, locals := 25 }
def f_X6_isRow (p0 : Int32) : Int32 := (f_X6_in (p0.toInt64) (0 : Int64) (15 : Int64))
set_option maxRecDepth 100000 in
set_option maxHeartbeats 4000000 in
theorem m_X6_isRow (l : Launch) (g : zG) (p0 : Int32) : ZI l yX6_isRow wsX6_isRow rm_X6_isRow g [] [.int p0] (f_X6_isRow p0) [] := by
  refine zopenI (cc := cX6_isRow) (maxL := 1) (ret := .boolean) (by decide +kernel) rfl (Nat.le_of_ble_eq_true rfl) ?_
  intro p e s m below meth c A Q ls hx hb hml hown hts hP hK hD hA hN hl hret
  have hS : va_S A s.heap s.heap [] := va_S.rf
  have hl : lv_has ls 1 [(0, .int p0)] := hl
  have hown : s.vm.findClass RX6 = some m.cls := hown
  refine lv_iload_n hx hb dX6_isRow_0 rfl (lv_at hl 0 rfl) ?_
  refine lv_i2l hx hb dX6_isRow_1 rfl ?_
  refine lv_lconst (v := (0 : Int64)) hx hb dX6_isRow_2 (by decide) ?_
  refine lv_ldc2 (v := (15 : Int64)) hx hb hown (hts (.constantLong RX6 38 (15)) (by decide +kernel)) dX6_isRow_3 ?_
  refine zcSi (n := 3) (As := [.long (p0.toInt64), .long (0 : Int64), .long (15 : Int64)]) (rest := []) hx hb hml hown hts hN (m_X6_in l g (p0.toInt64) (0 : Int64) (15 : Int64)) gX6_isRow_X6_in rfl (by decide +kernel) ⟨rfl, rfl⟩ ⟨Nat.le_of_ble_eq_true rfl, Nat.le_of_ble_eq_true rfl⟩ hK hP hD hS hA rfl hl.1 rfl (Nat.le_of_ble_eq_true rfl) dX6_isRow_6 ⟨Nat.zero_le _, Nat.zero_le _⟩ (fun H locs hP hD hS => ?_)
  have E : (f_X6_isRow p0) = (f_X6_in (p0.toInt64) (0 : Int64) (15 : Int64)) := rfl
  exact hret _ _ _ _ _ _ dX6_isRow_9 E.symm (znar_in) rfl hP hD hS
abbrev rm_X6_isPlace : Room := { frames := 1, cells := 0, slots := 0, locals := 25 }
def f_X6_isPlace (p0 : Int32) : Int32 := (f_X6_in (p0.toInt64) (0 : Int64) (5 : Int64))
set_option maxRecDepth 100000 in
set_option maxHeartbeats 4000000 in
theorem m_X6_isPlace (l : Launch) (g : zG) (p0 : Int32) : ZI l yX6_isPlace wsX6_isPlace rm_X6_isPlace g [] [.int p0] (f_X6_isPlace p0) [] := by
  refine zopenI (cc := cX6_isPlace) (maxL := 1) (ret := .boolean) (by decide +kernel) rfl (Nat.le_of_ble_eq_true rfl) ?_
  intro p e s m below meth c A Q ls hx hb hml hown hts hP hK hD hA hN hl hret
  have hS : va_S A s.heap s.heap [] := va_S.rf
  have hl : lv_has ls 1 [(0, .int p0)] := hl
  have hown : s.vm.findClass RX6 = some m.cls := hown
  refine lv_iload_n hx hb dX6_isPlace_0 rfl (lv_at hl 0 rfl) ?_
  refine lv_i2l hx hb dX6_isPlace_1 rfl ?_
  refine lv_lconst (v := (0 : Int64)) hx hb dX6_isPlace_2 (by decide) ?_
  refine lv_ldc2 (v := (5 : Int64)) hx hb hown (hts (.constantLong RX6 44 (5)) (by decide +kernel)) dX6_isPlace_3 ?_
  refine zcSi (n := 3) (As := [.long (p0.toInt64), .long (0 : Int64), .long (5 : Int64)]) (rest := []) hx hb hml hown hts hN (m_X6_in l g (p0.toInt64) (0 : Int64) (5 : Int64)) gX6_isPlace_X6_in rfl (by decide +kernel) ⟨rfl, rfl⟩ ⟨Nat.le_of_ble_eq_true rfl, Nat.le_of_ble_eq_true rfl⟩ hK hP hD hS hA rfl hl.1 rfl (Nat.le_of_ble_eq_true rfl) dX6_isPlace_6 ⟨Nat.zero_le _, Nat.zero_le _⟩ (fun H locs hP hD hS => ?_)
  have E : (f_X6_isPlace p0) = (f_X6_in (p0.toInt64) (0 : Int64) (5 : Int64)) := rfl
  exact hret _ _ _ _ _ _ dX6_isPlace_9 E.symm (znar_in) rfl hP hD hS
abbrev rm_X6_at : Room := { frames := 0, cells := 0, slots := 0, locals := 0 }
def f_X6_at (p0 : Int32) (p1 : Int32) : Int32 := (((40 : Int32) + ((6 : Int32) * p0)) + p1)
set_option maxRecDepth 100000 in
set_option maxHeartbeats 4000000 in
theorem m_X6_at (l : Launch) (g : zG) (p0 : Int32) (p1 : Int32) : ZI l yX6_at wsX6_at rm_X6_at g [] [.int p0, .int p1] (f_X6_at p0 p1) [] := by
  refine zopenI (cc := cX6_at) (maxL := 2) (ret := .int) (by decide +kernel) rfl (Nat.le_of_ble_eq_true rfl) ?_
  intro p e s m below meth c A Q ls hx hb hml hown hts hP hK hD hA hN hl hret
  have hS : va_S A s.heap s.heap [] := va_S.rf
  have hl : lv_has ls 2 [(0, .int p0), (1, .int p1)] := hl
  have hown : s.vm.findClass RX6 = some m.cls := hown
  refine lv_bipush (v := (40 : Int32)) hx hb dX6_at_0 (by decide) ?_
  refine lv_bipush (v := (6 : Int32)) hx hb dX6_at_2 (by decide) ?_
  refine lv_iload_n hx hb dX6_at_4 rfl (lv_at hl 0 rfl) ?_
  refine lv_imul hx hb dX6_at_5 ?_
  refine lv_iadd hx hb dX6_at_6 ?_
  refine lv_iload_n hx hb dX6_at_7 rfl (lv_at hl 1 rfl) ?_
  refine lv_iadd hx hb dX6_at_8 ?_
  have E : (f_X6_at p0 p1) = (((40 : Int32) + ((6 : Int32) * p0)) + p1) := rfl
  exact hret _ _ _ _ _ _ dX6_at_9 E.symm (rfl) rfl hP hD hS
theorem zin_at {x y : Int32} (hx : vp_in x 16) (hy : vp_in y 6) : vp_in (f_X6_at x y) 136 := by
  obtain ⟨r, hr, rfl⟩ := vp_in_of hx (by omega)
  obtain ⟨k, hk, rfl⟩ := vp_in_of hy (by omega)
  unfold f_X6_at
  rw [show (6 : Int32) = nI 6 from rfl, show (40 : Int32) = nI 40 from rfl, pk_mul, nI_add, nI_add]
  exact vp_in_nI (by omega) (by omega)
abbrev rm_X6_hasPeg : Room := { frames := 1, cells := 0, slots := 0, locals := 21 }
set_option maxRecDepth 20000 in
theorem zin_X6_hasPeg_X6 : ∀ w ∈ wsX60, w ∈ wsX6_hasPeg := by decide +kernel
def f_X6_hasPeg (v : zCV) (p0 : Int32) (p1 : Int32) : Int32 := if ((v.2 0) (f_X6_at p0 p1).toNatClampNeg) = (-6 : Int32) then ((0 : Int32)) else ((1 : Int32))
set_option maxRecDepth 100000 in
set_option maxHeartbeats 4000000 in
theorem m_X6_hasPeg (l : Launch) (g : zG) (q : Nat → Nat) (v : zCV) (p0 : Int32) (p1 : Int32) (h0 : vp_in p0 16) (h1 : vp_in p1 6) : ZI l yX6_hasPeg wsX6_hasPeg rm_X6_hasPeg g (mo g q v) [.ref (q 0), .int p0, .int p1] (f_X6_hasPeg v p0 p1) (mo g q v) := by
  refine zopenI (cc := cX6_hasPeg) (maxL := 3) (ret := .boolean) (by decide +kernel) rfl (Nat.le_of_ble_eq_true rfl) ?_
  intro p e s m below meth c A Q ls hx hb hml hown hts hP hK hD hA hN hl hret
  have hS : va_S A s.heap s.heap [] := va_S.rf
  have hl : lv_has ls 3 [(0, .ref (q 0)), (1, .int p0), (2, .int p1)] := hl
  have hown : s.vm.findClass RX6 = some m.cls := hown
  refine lv_aload_n hx hb dX6_hasPeg_0 rfl (lv_at hl 0 rfl) ?_
  refine va_get (D := g.1) (ci := 6) (v := .ref (q 1)) (C := RX6) (T := TX6) (N := 12) hx hb hts (zin_X6_hasPeg_X6) hown hK hP 0 rfl rfl 0 (by decide) (hts (.fieldLink RX6 7 "PegClerksModel" "all" "[I") (by decide +kernel)) (fun _ h9 => h9) rfl dX6_hasPeg_1 ?_
  refine lv_iload_n hx hb dX6_hasPeg_4 rfl (lv_at hl 1 rfl) ?_
  refine lv_iload_n hx hb dX6_hasPeg_5 rfl (lv_at hl 2 rfl) ?_
  refine zcSi (n := 2) (As := [.int p0, .int p1]) (rest := [.ref (q 1)]) hx hb hml hown hts hN (m_X6_at l g p0 p1) gX6_hasPeg_X6_at rfl (by decide +kernel) ⟨rfl, rfl⟩ ⟨Nat.le_of_ble_eq_true rfl, Nat.le_of_ble_eq_true rfl⟩ hK hP hD hS hA rfl hl.1 rfl (Nat.le_of_ble_eq_true rfl) dX6_hasPeg_6 ⟨Nat.zero_le _, Nat.zero_le _⟩ (fun H locs hP hD hS => ?_)
  refine z_iald (f := (v.2 0)) (k := (f_X6_at p0 p1).toNatClampNeg) hx hb hK hP 1 0 rfl rfl (zin_at h0 h1) rfl dX6_hasPeg_9 ?_
  refine lv_bipush (v := (-6 : Int32)) hx hb dX6_hasPeg_10 (by decide) ?_
  refine lv_icmp_eq (tgt := 19) hx hb dX6_hasPeg_12 (by decide) (fun c_12 => ?_) (fun c_12 => ?_)
  · refine lv_iconst (v := (0 : Int32)) hx hb dX6_hasPeg_19 (by decide) ?_
    have E : (f_X6_hasPeg v p0 p1) = (0 : Int32) := (if_pos c_12).trans rfl
    exact hret _ _ _ _ _ _ dX6_hasPeg_20 E.symm (rfl) rfl hP hD hS
  · refine lv_iconst (v := (1 : Int32)) hx hb dX6_hasPeg_15 (by decide) ?_
    refine lv_goto (tgt := 20) hx hb dX6_hasPeg_16 (by decide) ?_
    have E : (f_X6_hasPeg v p0 p1) = (1 : Int32) := (if_neg c_12).trans rfl
    exact hret _ _ _ _ _ _ dX6_hasPeg_20 E.symm (rfl) rfl hP hD hS
abbrev rm_X6_pegsIn : Room := { frames := 2, cells := 0, slots := 0, locals := 43 }
def r_X6_pegsIn_14 (v : zCV) (p0 : Int32) (i4 : Nat) : Int32 := (f_X6_hasPeg v p0 (nI i4))
def f_X6_pegsIn_L4 (v : zCV) (p0 : Int32) : Nat → Nat → Int32 → Int32
  | 0, i4, x4_2 => x4_2
  | n4 + 1, i4, x4_2 => if (r_X6_pegsIn_14 v p0 i4) = (0 : Int32) then ((f_X6_pegsIn_L4 v p0 n4 (i4 + 1) (x4_2 + (0 : Int32)))) else ((f_X6_pegsIn_L4 v p0 n4 (i4 + 1) (x4_2 + (1 : Int32))))
def f_X6_pegsIn (v : zCV) (p0 : Int32) : Int32 := (f_X6_pegsIn_L4 v p0 6 0 (0 : Int32))
set_option maxRecDepth 100000 in
set_option maxHeartbeats 4000000 in
theorem m_X6_pegsIn (l : Launch) (g : zG) (q : Nat → Nat) (v : zCV) (p0 : Int32) (h0 : vp_in p0 16) : ZI l yX6_pegsIn wsX6_pegsIn rm_X6_pegsIn g (mo g q v) [.ref (q 0), .int p0] (f_X6_pegsIn v p0) (mo g q v) := by
  refine zopenI (cc := cX6_pegsIn) (maxL := 4) (ret := .int) (by decide +kernel) rfl (Nat.le_of_ble_eq_true rfl) ?_
  intro p e s m below meth c A Q ls hx hb hml hown hts hP hK hD hA hN hl hret
  have hS : va_S A s.heap s.heap [] := va_S.rf
  have hl : lv_has ls 4 [(0, .ref (q 0)), (1, .int p0)] := hl
  have hown : s.vm.findClass RX6 = some m.cls := hown
  refine lv_iconst (v := (0 : Int32)) hx hb dX6_pegsIn_0 (by decide) ?_
  refine lv_istore_n (lv' := [(2, .int (0 : Int32)), (0, .ref (q 0)), (1, .int p0)]) hx hb dX6_pegsIn_1 rfl hl (by decide) rfl (fun ls hl => ?_)
  refine lv_iconst (v := (0 : Int32)) hx hb dX6_pegsIn_2 (by decide) ?_
  refine lv_istore_n (lv' := [(3, .int (0 : Int32)), (2, .int (0 : Int32)), (0, .ref (q 0)), (1, .int p0)]) hx hb dX6_pegsIn_3 rfl hl (by decide) rfl (fun ls hl => ?_)
  have L4 : ∀ (n4 : Nat) (i4 : Nat), i4 + n4 = 6 → ∀ (x4_2 : Int32) (H : Heap) (locs : List Loc) (ls : Array Slot), va_P g.1 vwCl (mo g q v) H → va_D A (mo g q v) → va_S A s.heap H locs → lv_has ls 4 [(3, .int (nI i4)), (2, .int x4_2), (0, .ref (q 0)), (1, .int p0)] → (∀ (H : Heap) (locs : List Loc) (ls : Array Slot), va_P g.1 vwCl (mo g q v) H → va_D A (mo g q v) → va_S A s.heap H locs → lv_has ls 4 [(2, .int (f_X6_pegsIn_L4 v p0 n4 i4 x4_2)), (0, .ref (q 0)), (1, .int p0)] → W p l e rm_X6_pegsIn s m ([.ref (q 0), .int p0] : List Value).toArray below meth c H locs 0 0 Q (F0 m 33 ls [])) → W p l e rm_X6_pegsIn s m ([.ref (q 0), .int p0] : List Value).toArray below meth c H locs 0 0 Q (F0 m 4 ls []) := by
    intro n4
    induction n4 with
    | zero =>
      intro i4 hin4 x4_2 H locs ls hP hD hS hl kx
      refine lv_iload_n hx hb dX6_pegsIn_4 rfl (lv_at hl 0 rfl) ?_
      refine lv_bipush (v := (6 : Int32)) hx hb dX6_pegsIn_5 (by decide) ?_
      refine lv_icmp_ge (tgt := 33) hx hb dX6_pegsIn_7 (by decide) (fun c_7 => ?_) (fun c_7 => ?_)
      rotate_left
      · exact absurd (by rw [show i4 = 6 by omega]; decide) c_7
      have E : (f_X6_pegsIn_L4 v p0 0 i4 x4_2) = x4_2 := rfl
      rw [E] at kx
      exact kx _ _ _ hP hD hS (lv_sub hl [1, 2, 3] rfl)
    | succ n4 ih4 =>
      intro i4 hin4 x4_2 H locs ls hP hD hS hl kx
      refine lv_iload_n hx hb dX6_pegsIn_4 rfl (lv_at hl 0 rfl) ?_
      refine lv_bipush (v := (6 : Int32)) hx hb dX6_pegsIn_5 (by decide) ?_
      refine lv_icmp_ge (tgt := 33) hx hb dX6_pegsIn_7 (by decide) (fun c_7 => ?_) (fun c_7 => ?_)
      · exact absurd c_7 (nI_ge (a := i4) (b := 6) (by omega) (by omega))
      refine lv_iload_n hx hb dX6_pegsIn_10 rfl (lv_at hl 1 rfl) ?_
      refine lv_aload_n hx hb dX6_pegsIn_11 rfl (lv_at hl 2 rfl) ?_
      refine lv_iload_n hx hb dX6_pegsIn_12 rfl (lv_at hl 3 rfl) ?_
      refine lv_iload_n hx hb dX6_pegsIn_13 rfl (lv_at hl 0 rfl) ?_
      refine zcVi (n := 2) (As := [.int p0, .int (nI i4)]) (rest := [.int x4_2]) (Xr := []) (Xn := (mo g q v)) (ci := 6) (C := RX6) (T := TX6) (N := 12) (q0 := 0) hx hb hml hown hts hN (m_X6_hasPeg l g q v p0 (nI i4) h0 (vp_in_nI (by omega) (by omega))) gX6_pegsIn_X6_hasPeg rfl (by decide +kernel) ⟨rfl, rfl⟩ ⟨Nat.le_of_ble_eq_true rfl, Nat.le_of_ble_eq_true rfl⟩ hK hP hD hS hA (zpn _) rfl rfl rfl hl.1 rfl (Nat.le_of_ble_eq_true rfl) dX6_pegsIn_14 ⟨Nat.zero_le _, Nat.zero_le _⟩ (zpn' _) (fun H locs hP hD hS => ?_)
      refine lv_if_eq (tgt := 24) hx hb dX6_pegsIn_17 (by decide) (fun c_17 => ?_) (fun c_17 => ?_)
      · refine lv_iconst (v := (0 : Int32)) hx hb dX6_pegsIn_24 (by decide) ?_
        refine lv_iadd hx hb dX6_pegsIn_25 ?_
        refine lv_istore_n (lv' := [(2, .int (x4_2 + (0 : Int32))), (3, .int (nI i4)), (0, .ref (q 0)), (1, .int p0)]) hx hb dX6_pegsIn_26 rfl hl (by decide) rfl (fun ls hl => ?_)
        refine lv_iinc (v := (nI (i4 + 1))) (lv' := [(3, .int (nI (i4 + 1))), (2, .int (x4_2 + (0 : Int32))), (0, .ref (q 0)), (1, .int p0)]) hx hb dX6_pegsIn_27 hl (k := 1) rfl (nI_1 i4) (by decide) rfl (fun ls hl => ?_)
        refine lv_goto (tgt := 4) hx hb dX6_pegsIn_30 (by decide) ?_
        have E : (f_X6_pegsIn_L4 v p0 (n4 + 1) i4 x4_2) = (f_X6_pegsIn_L4 v p0 n4 (i4 + 1) (x4_2 + (0 : Int32))) := (if_pos c_17).trans rfl
        rw [E] at kx
        exact ih4 (i4 + 1) (by omega) (x4_2 + (0 : Int32)) _ _ _  hP hD hS (lv_sub hl [0, 1, 2, 3] rfl) kx
      · refine lv_iconst (v := (1 : Int32)) hx hb dX6_pegsIn_20 (by decide) ?_
        refine lv_goto (tgt := 25) hx hb dX6_pegsIn_21 (by decide) ?_
        refine lv_iadd hx hb dX6_pegsIn_25 ?_
        refine lv_istore_n (lv' := [(2, .int (x4_2 + (1 : Int32))), (3, .int (nI i4)), (0, .ref (q 0)), (1, .int p0)]) hx hb dX6_pegsIn_26 rfl hl (by decide) rfl (fun ls hl => ?_)
        refine lv_iinc (v := (nI (i4 + 1))) (lv' := [(3, .int (nI (i4 + 1))), (2, .int (x4_2 + (1 : Int32))), (0, .ref (q 0)), (1, .int p0)]) hx hb dX6_pegsIn_27 hl (k := 1) rfl (nI_1 i4) (by decide) rfl (fun ls hl => ?_)
        refine lv_goto (tgt := 4) hx hb dX6_pegsIn_30 (by decide) ?_
        have E : (f_X6_pegsIn_L4 v p0 (n4 + 1) i4 x4_2) = (f_X6_pegsIn_L4 v p0 n4 (i4 + 1) (x4_2 + (1 : Int32))) := (if_neg c_17).trans rfl
        rw [E] at kx
        exact ih4 (i4 + 1) (by omega) (x4_2 + (1 : Int32)) _ _ _  hP hD hS (lv_sub hl [0, 1, 2, 3] rfl) kx
  refine L4 6 0 (by omega) (0 : Int32) _ _ _  hP hD hS (lv_sub hl [0, 1, 2, 3] rfl) (fun H locs ls hP hD hS hl => ?_)
  refine lv_iload_n hx hb dX6_pegsIn_33 rfl (lv_at hl 0 rfl) ?_
  have E : (f_X6_pegsIn v p0) = (f_X6_pegsIn_L4 v p0 6 0 (0 : Int32)) := rfl
  exact hret _ _ _ _ _ _ dX6_pegsIn_34 E.symm (rfl) rfl hP hD hS
abbrev rm_X6_setIn : Room := { frames := 2, cells := 0, slots := 0, locals := 43 }
def r_X6_setIn_14 (v : zCV) (p0 : Int32) (i4 : Nat) : Int32 := (f_X6_hasPeg v p0 (nI i4))
def f_X6_setIn_L4 (v : zCV) (p0 : Int32) : Nat → Nat → Int32 → Int32
  | 0, i4, x4_2 => x4_2
  | n4 + 1, i4, x4_2 => if (r_X6_setIn_14 v p0 i4) = (0 : Int32) then ((f_X6_setIn_L4 v p0 n4 (i4 + 1) (x4_2 ||| (0 : Int32)))) else ((f_X6_setIn_L4 v p0 n4 (i4 + 1) (x4_2 ||| ((1 : Int32) <<< ((nI i4) &&& 31)))))
def f_X6_setIn (v : zCV) (p0 : Int32) : Int32 := (f_X6_setIn_L4 v p0 6 0 (0 : Int32))
set_option maxRecDepth 100000 in
set_option maxHeartbeats 4000000 in
theorem m_X6_setIn (l : Launch) (g : zG) (q : Nat → Nat) (v : zCV) (p0 : Int32) (h0 : vp_in p0 16) : ZI l yX6_setIn wsX6_setIn rm_X6_setIn g (mo g q v) [.ref (q 0), .int p0] (f_X6_setIn v p0) (mo g q v) := by
  refine zopenI (cc := cX6_setIn) (maxL := 4) (ret := .int) (by decide +kernel) rfl (Nat.le_of_ble_eq_true rfl) ?_
  intro p e s m below meth c A Q ls hx hb hml hown hts hP hK hD hA hN hl hret
  have hS : va_S A s.heap s.heap [] := va_S.rf
  have hl : lv_has ls 4 [(0, .ref (q 0)), (1, .int p0)] := hl
  have hown : s.vm.findClass RX6 = some m.cls := hown
  refine lv_iconst (v := (0 : Int32)) hx hb dX6_setIn_0 (by decide) ?_
  refine lv_istore_n (lv' := [(2, .int (0 : Int32)), (0, .ref (q 0)), (1, .int p0)]) hx hb dX6_setIn_1 rfl hl (by decide) rfl (fun ls hl => ?_)
  refine lv_iconst (v := (0 : Int32)) hx hb dX6_setIn_2 (by decide) ?_
  refine lv_istore_n (lv' := [(3, .int (0 : Int32)), (2, .int (0 : Int32)), (0, .ref (q 0)), (1, .int p0)]) hx hb dX6_setIn_3 rfl hl (by decide) rfl (fun ls hl => ?_)
  have L4 : ∀ (n4 : Nat) (i4 : Nat), i4 + n4 = 6 → ∀ (x4_2 : Int32) (H : Heap) (locs : List Loc) (ls : Array Slot), va_P g.1 vwCl (mo g q v) H → va_D A (mo g q v) → va_S A s.heap H locs → lv_has ls 4 [(3, .int (nI i4)), (2, .int x4_2), (0, .ref (q 0)), (1, .int p0)] → (∀ (H : Heap) (locs : List Loc) (ls : Array Slot), va_P g.1 vwCl (mo g q v) H → va_D A (mo g q v) → va_S A s.heap H locs → lv_has ls 4 [(2, .int (f_X6_setIn_L4 v p0 n4 i4 x4_2)), (0, .ref (q 0)), (1, .int p0)] → W p l e rm_X6_setIn s m ([.ref (q 0), .int p0] : List Value).toArray below meth c H locs 0 0 Q (F0 m 35 ls [])) → W p l e rm_X6_setIn s m ([.ref (q 0), .int p0] : List Value).toArray below meth c H locs 0 0 Q (F0 m 4 ls []) := by
    intro n4
    induction n4 with
    | zero =>
      intro i4 hin4 x4_2 H locs ls hP hD hS hl kx
      refine lv_iload_n hx hb dX6_setIn_4 rfl (lv_at hl 0 rfl) ?_
      refine lv_bipush (v := (6 : Int32)) hx hb dX6_setIn_5 (by decide) ?_
      refine lv_icmp_ge (tgt := 35) hx hb dX6_setIn_7 (by decide) (fun c_7 => ?_) (fun c_7 => ?_)
      rotate_left
      · exact absurd (by rw [show i4 = 6 by omega]; decide) c_7
      have E : (f_X6_setIn_L4 v p0 0 i4 x4_2) = x4_2 := rfl
      rw [E] at kx
      exact kx _ _ _ hP hD hS (lv_sub hl [1, 2, 3] rfl)
    | succ n4 ih4 =>
      intro i4 hin4 x4_2 H locs ls hP hD hS hl kx
      refine lv_iload_n hx hb dX6_setIn_4 rfl (lv_at hl 0 rfl) ?_
      refine lv_bipush (v := (6 : Int32)) hx hb dX6_setIn_5 (by decide) ?_
      refine lv_icmp_ge (tgt := 35) hx hb dX6_setIn_7 (by decide) (fun c_7 => ?_) (fun c_7 => ?_)
      · exact absurd c_7 (nI_ge (a := i4) (b := 6) (by omega) (by omega))
      refine lv_iload_n hx hb dX6_setIn_10 rfl (lv_at hl 1 rfl) ?_
      refine lv_aload_n hx hb dX6_setIn_11 rfl (lv_at hl 2 rfl) ?_
      refine lv_iload_n hx hb dX6_setIn_12 rfl (lv_at hl 3 rfl) ?_
      refine lv_iload_n hx hb dX6_setIn_13 rfl (lv_at hl 0 rfl) ?_
      refine zcVi (n := 2) (As := [.int p0, .int (nI i4)]) (rest := [.int x4_2]) (Xr := []) (Xn := (mo g q v)) (ci := 6) (C := RX6) (T := TX6) (N := 12) (q0 := 0) hx hb hml hown hts hN (m_X6_hasPeg l g q v p0 (nI i4) h0 (vp_in_nI (by omega) (by omega))) gX6_setIn_X6_hasPeg rfl (by decide +kernel) ⟨rfl, rfl⟩ ⟨Nat.le_of_ble_eq_true rfl, Nat.le_of_ble_eq_true rfl⟩ hK hP hD hS hA (zpn _) rfl rfl rfl hl.1 rfl (Nat.le_of_ble_eq_true rfl) dX6_setIn_14 ⟨Nat.zero_le _, Nat.zero_le _⟩ (zpn' _) (fun H locs hP hD hS => ?_)
      refine lv_if_eq (tgt := 26) hx hb dX6_setIn_17 (by decide) (fun c_17 => ?_) (fun c_17 => ?_)
      · refine lv_iconst (v := (0 : Int32)) hx hb dX6_setIn_26 (by decide) ?_
        refine lv_ior hx hb dX6_setIn_27 ?_
        refine lv_istore_n (lv' := [(2, .int (x4_2 ||| (0 : Int32))), (3, .int (nI i4)), (0, .ref (q 0)), (1, .int p0)]) hx hb dX6_setIn_28 rfl hl (by decide) rfl (fun ls hl => ?_)
        refine lv_iinc (v := (nI (i4 + 1))) (lv' := [(3, .int (nI (i4 + 1))), (2, .int (x4_2 ||| (0 : Int32))), (0, .ref (q 0)), (1, .int p0)]) hx hb dX6_setIn_29 hl (k := 1) rfl (nI_1 i4) (by decide) rfl (fun ls hl => ?_)
        refine lv_goto (tgt := 4) hx hb dX6_setIn_32 (by decide) ?_
        have E : (f_X6_setIn_L4 v p0 (n4 + 1) i4 x4_2) = (f_X6_setIn_L4 v p0 n4 (i4 + 1) (x4_2 ||| (0 : Int32))) := (if_pos c_17).trans rfl
        rw [E] at kx
        exact ih4 (i4 + 1) (by omega) (x4_2 ||| (0 : Int32)) _ _ _  hP hD hS (lv_sub hl [0, 1, 2, 3] rfl) kx
      · refine lv_iconst (v := (1 : Int32)) hx hb dX6_setIn_20 (by decide) ?_
        refine lv_iload_n hx hb dX6_setIn_21 rfl (lv_at hl 0 rfl) ?_
        refine lv_ishl hx hb dX6_setIn_22 ?_
        refine lv_goto (tgt := 27) hx hb dX6_setIn_23 (by decide) ?_
        refine lv_ior hx hb dX6_setIn_27 ?_
        refine lv_istore_n (lv' := [(2, .int (x4_2 ||| ((1 : Int32) <<< ((nI i4) &&& 31)))), (3, .int (nI i4)), (0, .ref (q 0)), (1, .int p0)]) hx hb dX6_setIn_28 rfl hl (by decide) rfl (fun ls hl => ?_)
        refine lv_iinc (v := (nI (i4 + 1))) (lv' := [(3, .int (nI (i4 + 1))), (2, .int (x4_2 ||| ((1 : Int32) <<< ((nI i4) &&& 31)))), (0, .ref (q 0)), (1, .int p0)]) hx hb dX6_setIn_29 hl (k := 1) rfl (nI_1 i4) (by decide) rfl (fun ls hl => ?_)
        refine lv_goto (tgt := 4) hx hb dX6_setIn_32 (by decide) ?_
        have E : (f_X6_setIn_L4 v p0 (n4 + 1) i4 x4_2) = (f_X6_setIn_L4 v p0 n4 (i4 + 1) (x4_2 ||| ((1 : Int32) <<< ((nI i4) &&& 31)))) := (if_neg c_17).trans rfl
        rw [E] at kx
        exact ih4 (i4 + 1) (by omega) (x4_2 ||| ((1 : Int32) <<< ((nI i4) &&& 31))) _ _ _  hP hD hS (lv_sub hl [0, 1, 2, 3] rfl) kx
  refine L4 6 0 (by omega) (0 : Int32) _ _ _  hP hD hS (lv_sub hl [0, 1, 2, 3] rfl) (fun H locs ls hP hD hS hl => ?_)
  refine lv_iload_n hx hb dX6_setIn_35 rfl (lv_at hl 0 rfl) ?_
  have E : (f_X6_setIn v p0) = (f_X6_setIn_L4 v p0 6 0 (0 : Int32)) := rfl
  exact hret _ _ _ _ _ _ dX6_setIn_36 E.symm (rfl) rfl hP hD hS
abbrev rm_X6_pegs : Room := { frames := 3, cells := 0, slots := 0, locals := 66 }
def r_X6_pegs_13 (v : zCV) (i4 : Nat) : Int32 := (f_X6_pegsIn v (nI i4))
def f_X6_pegs_L4 (v : zCV) : Nat → Nat → Int32 → Int32
  | 0, i4, x4_1 => x4_1
  | n4 + 1, i4, x4_1 => (f_X6_pegs_L4 v n4 (i4 + 1) (x4_1 + (r_X6_pegs_13 v i4)))
def f_X6_pegs (v : zCV) : Int32 := (f_X6_pegs_L4 v 16 0 (0 : Int32))
set_option maxRecDepth 100000 in
set_option maxHeartbeats 4000000 in
theorem m_X6_pegs (l : Launch) (g : zG) (q : Nat → Nat) (v : zCV) : ZI l yX6_pegs wsX6_pegs rm_X6_pegs g (mo g q v) [.ref (q 0)] (f_X6_pegs v) (mo g q v) := by
  refine zopenI (cc := cX6_pegs) (maxL := 3) (ret := .int) (by decide +kernel) rfl (Nat.le_of_ble_eq_true rfl) ?_
  intro p e s m below meth c A Q ls hx hb hml hown hts hP hK hD hA hN hl hret
  have hS : va_S A s.heap s.heap [] := va_S.rf
  have hl : lv_has ls 3 [(0, .ref (q 0))] := hl
  have hown : s.vm.findClass RX6 = some m.cls := hown
  refine lv_iconst (v := (0 : Int32)) hx hb dX6_pegs_0 (by decide) ?_
  refine lv_istore_n (lv' := [(1, .int (0 : Int32)), (0, .ref (q 0))]) hx hb dX6_pegs_1 rfl hl (by decide) rfl (fun ls hl => ?_)
  refine lv_iconst (v := (0 : Int32)) hx hb dX6_pegs_2 (by decide) ?_
  refine lv_istore_n (lv' := [(2, .int (0 : Int32)), (1, .int (0 : Int32)), (0, .ref (q 0))]) hx hb dX6_pegs_3 rfl hl (by decide) rfl (fun ls hl => ?_)
  have L4 : ∀ (n4 : Nat) (i4 : Nat), i4 + n4 = 16 → ∀ (x4_1 : Int32) (H : Heap) (locs : List Loc) (ls : Array Slot), va_P g.1 vwCl (mo g q v) H → va_D A (mo g q v) → va_S A s.heap H locs → lv_has ls 3 [(2, .int (nI i4)), (1, .int x4_1), (0, .ref (q 0))] → (∀ (H : Heap) (locs : List Loc) (ls : Array Slot), va_P g.1 vwCl (mo g q v) H → va_D A (mo g q v) → va_S A s.heap H locs → lv_has ls 3 [(1, .int (f_X6_pegs_L4 v n4 i4 x4_1)), (0, .ref (q 0))] → W p l e rm_X6_pegs s m ([.ref (q 0)] : List Value).toArray below meth c H locs 0 0 Q (F0 m 24 ls [])) → W p l e rm_X6_pegs s m ([.ref (q 0)] : List Value).toArray below meth c H locs 0 0 Q (F0 m 4 ls []) := by
    intro n4
    induction n4 with
    | zero =>
      intro i4 hin4 x4_1 H locs ls hP hD hS hl kx
      refine lv_iload_n hx hb dX6_pegs_4 rfl (lv_at hl 0 rfl) ?_
      refine lv_bipush (v := (16 : Int32)) hx hb dX6_pegs_5 (by decide) ?_
      refine lv_icmp_ge (tgt := 24) hx hb dX6_pegs_7 (by decide) (fun c_7 => ?_) (fun c_7 => ?_)
      rotate_left
      · exact absurd (by rw [show i4 = 16 by omega]; decide) c_7
      have E : (f_X6_pegs_L4 v 0 i4 x4_1) = x4_1 := rfl
      rw [E] at kx
      exact kx _ _ _ hP hD hS (lv_sub hl [1, 2] rfl)
    | succ n4 ih4 =>
      intro i4 hin4 x4_1 H locs ls hP hD hS hl kx
      refine lv_iload_n hx hb dX6_pegs_4 rfl (lv_at hl 0 rfl) ?_
      refine lv_bipush (v := (16 : Int32)) hx hb dX6_pegs_5 (by decide) ?_
      refine lv_icmp_ge (tgt := 24) hx hb dX6_pegs_7 (by decide) (fun c_7 => ?_) (fun c_7 => ?_)
      · exact absurd c_7 (nI_ge (a := i4) (b := 16) (by omega) (by omega))
      refine lv_iload_n hx hb dX6_pegs_10 rfl (lv_at hl 1 rfl) ?_
      refine lv_aload_n hx hb dX6_pegs_11 rfl (lv_at hl 2 rfl) ?_
      refine lv_iload_n hx hb dX6_pegs_12 rfl (lv_at hl 0 rfl) ?_
      refine zcVi (n := 1) (As := [.int (nI i4)]) (rest := [.int x4_1]) (Xr := []) (Xn := (mo g q v)) (ci := 6) (C := RX6) (T := TX6) (N := 12) (q0 := 0) hx hb hml hown hts hN (m_X6_pegsIn l g q v (nI i4) (vp_in_nI (by omega) (by omega))) gX6_pegs_X6_pegsIn rfl (by decide +kernel) ⟨rfl, rfl⟩ ⟨Nat.le_of_ble_eq_true rfl, Nat.le_of_ble_eq_true rfl⟩ hK hP hD hS hA (zpn _) rfl rfl rfl hl.1 rfl (Nat.le_of_ble_eq_true rfl) dX6_pegs_13 ⟨Nat.zero_le _, Nat.zero_le _⟩ (zpn' _) (fun H locs hP hD hS => ?_)
      refine lv_iadd hx hb dX6_pegs_16 ?_
      refine lv_istore_n (lv' := [(1, .int (x4_1 + (r_X6_pegs_13 v i4))), (2, .int (nI i4)), (0, .ref (q 0))]) hx hb dX6_pegs_17 rfl hl (by decide) rfl (fun ls hl => ?_)
      refine lv_iinc (v := (nI (i4 + 1))) (lv' := [(2, .int (nI (i4 + 1))), (1, .int (x4_1 + (r_X6_pegs_13 v i4))), (0, .ref (q 0))]) hx hb dX6_pegs_18 hl (k := 1) rfl (nI_1 i4) (by decide) rfl (fun ls hl => ?_)
      refine lv_goto (tgt := 4) hx hb dX6_pegs_21 (by decide) ?_
      have E : (f_X6_pegs_L4 v (n4 + 1) i4 x4_1) = (f_X6_pegs_L4 v n4 (i4 + 1) (x4_1 + (r_X6_pegs_13 v i4))) := rfl
      rw [E] at kx
      exact ih4 (i4 + 1) (by omega) (x4_1 + (r_X6_pegs_13 v i4)) _ _ _  hP hD hS (lv_sub hl [0, 1, 2] rfl) kx
  refine L4 16 0 (by omega) (0 : Int32) _ _ _  hP hD hS (lv_sub hl [0, 1, 2] rfl) (fun H locs ls hP hD hS hl => ?_)
  refine lv_iload_n hx hb dX6_pegs_24 rfl (lv_at hl 0 rfl) ?_
  have E : (f_X6_pegs v) = (f_X6_pegs_L4 v 16 0 (0 : Int32)) := rfl
  exact hret _ _ _ _ _ _ dX6_pegs_25 E.symm (rfl) rfl hP hD hS
abbrev rm_X6_pegsOf : Room := { frames := 2, cells := 0, slots := 0, locals := 43 }
def r_X6_pegsOf_14 (v : zCV) (p0 : Int32) (i4 : Nat) : Int32 := (f_X6_hasPeg v (nI i4) p0)
def f_X6_pegsOf_L4 (v : zCV) (p0 : Int32) : Nat → Nat → Int32 → Int32
  | 0, i4, x4_2 => x4_2
  | n4 + 1, i4, x4_2 => if (r_X6_pegsOf_14 v p0 i4) = (0 : Int32) then ((f_X6_pegsOf_L4 v p0 n4 (i4 + 1) (x4_2 + (0 : Int32)))) else ((f_X6_pegsOf_L4 v p0 n4 (i4 + 1) (x4_2 + (1 : Int32))))
def f_X6_pegsOf (v : zCV) (p0 : Int32) : Int32 := (f_X6_pegsOf_L4 v p0 16 0 (0 : Int32))
set_option maxRecDepth 100000 in
set_option maxHeartbeats 4000000 in
theorem m_X6_pegsOf (l : Launch) (g : zG) (q : Nat → Nat) (v : zCV) (p0 : Int32) (h0 : vp_in p0 6) : ZI l yX6_pegsOf wsX6_pegsOf rm_X6_pegsOf g (mo g q v) [.ref (q 0), .int p0] (f_X6_pegsOf v p0) (mo g q v) := by
  refine zopenI (cc := cX6_pegsOf) (maxL := 4) (ret := .int) (by decide +kernel) rfl (Nat.le_of_ble_eq_true rfl) ?_
  intro p e s m below meth c A Q ls hx hb hml hown hts hP hK hD hA hN hl hret
  have hS : va_S A s.heap s.heap [] := va_S.rf
  have hl : lv_has ls 4 [(0, .ref (q 0)), (1, .int p0)] := hl
  have hown : s.vm.findClass RX6 = some m.cls := hown
  refine lv_iconst (v := (0 : Int32)) hx hb dX6_pegsOf_0 (by decide) ?_
  refine lv_istore_n (lv' := [(2, .int (0 : Int32)), (0, .ref (q 0)), (1, .int p0)]) hx hb dX6_pegsOf_1 rfl hl (by decide) rfl (fun ls hl => ?_)
  refine lv_iconst (v := (0 : Int32)) hx hb dX6_pegsOf_2 (by decide) ?_
  refine lv_istore_n (lv' := [(3, .int (0 : Int32)), (2, .int (0 : Int32)), (0, .ref (q 0)), (1, .int p0)]) hx hb dX6_pegsOf_3 rfl hl (by decide) rfl (fun ls hl => ?_)
  have L4 : ∀ (n4 : Nat) (i4 : Nat), i4 + n4 = 16 → ∀ (x4_2 : Int32) (H : Heap) (locs : List Loc) (ls : Array Slot), va_P g.1 vwCl (mo g q v) H → va_D A (mo g q v) → va_S A s.heap H locs → lv_has ls 4 [(3, .int (nI i4)), (2, .int x4_2), (0, .ref (q 0)), (1, .int p0)] → (∀ (H : Heap) (locs : List Loc) (ls : Array Slot), va_P g.1 vwCl (mo g q v) H → va_D A (mo g q v) → va_S A s.heap H locs → lv_has ls 4 [(2, .int (f_X6_pegsOf_L4 v p0 n4 i4 x4_2)), (0, .ref (q 0)), (1, .int p0)] → W p l e rm_X6_pegsOf s m ([.ref (q 0), .int p0] : List Value).toArray below meth c H locs 0 0 Q (F0 m 33 ls [])) → W p l e rm_X6_pegsOf s m ([.ref (q 0), .int p0] : List Value).toArray below meth c H locs 0 0 Q (F0 m 4 ls []) := by
    intro n4
    induction n4 with
    | zero =>
      intro i4 hin4 x4_2 H locs ls hP hD hS hl kx
      refine lv_iload_n hx hb dX6_pegsOf_4 rfl (lv_at hl 0 rfl) ?_
      refine lv_bipush (v := (16 : Int32)) hx hb dX6_pegsOf_5 (by decide) ?_
      refine lv_icmp_ge (tgt := 33) hx hb dX6_pegsOf_7 (by decide) (fun c_7 => ?_) (fun c_7 => ?_)
      rotate_left
      · exact absurd (by rw [show i4 = 16 by omega]; decide) c_7
      have E : (f_X6_pegsOf_L4 v p0 0 i4 x4_2) = x4_2 := rfl
      rw [E] at kx
      exact kx _ _ _ hP hD hS (lv_sub hl [1, 2, 3] rfl)
    | succ n4 ih4 =>
      intro i4 hin4 x4_2 H locs ls hP hD hS hl kx
      refine lv_iload_n hx hb dX6_pegsOf_4 rfl (lv_at hl 0 rfl) ?_
      refine lv_bipush (v := (16 : Int32)) hx hb dX6_pegsOf_5 (by decide) ?_
      refine lv_icmp_ge (tgt := 33) hx hb dX6_pegsOf_7 (by decide) (fun c_7 => ?_) (fun c_7 => ?_)
      · exact absurd c_7 (nI_ge (a := i4) (b := 16) (by omega) (by omega))
      refine lv_iload_n hx hb dX6_pegsOf_10 rfl (lv_at hl 1 rfl) ?_
      refine lv_aload_n hx hb dX6_pegsOf_11 rfl (lv_at hl 2 rfl) ?_
      refine lv_iload_n hx hb dX6_pegsOf_12 rfl (lv_at hl 0 rfl) ?_
      refine lv_iload_n hx hb dX6_pegsOf_13 rfl (lv_at hl 3 rfl) ?_
      refine zcVi (n := 2) (As := [.int (nI i4), .int p0]) (rest := [.int x4_2]) (Xr := []) (Xn := (mo g q v)) (ci := 6) (C := RX6) (T := TX6) (N := 12) (q0 := 0) hx hb hml hown hts hN (m_X6_hasPeg l g q v (nI i4) p0 (vp_in_nI (by omega) (by omega)) h0) gX6_pegsOf_X6_hasPeg rfl (by decide +kernel) ⟨rfl, rfl⟩ ⟨Nat.le_of_ble_eq_true rfl, Nat.le_of_ble_eq_true rfl⟩ hK hP hD hS hA (zpn _) rfl rfl rfl hl.1 rfl (Nat.le_of_ble_eq_true rfl) dX6_pegsOf_14 ⟨Nat.zero_le _, Nat.zero_le _⟩ (zpn' _) (fun H locs hP hD hS => ?_)
      refine lv_if_eq (tgt := 24) hx hb dX6_pegsOf_17 (by decide) (fun c_17 => ?_) (fun c_17 => ?_)
      · refine lv_iconst (v := (0 : Int32)) hx hb dX6_pegsOf_24 (by decide) ?_
        refine lv_iadd hx hb dX6_pegsOf_25 ?_
        refine lv_istore_n (lv' := [(2, .int (x4_2 + (0 : Int32))), (3, .int (nI i4)), (0, .ref (q 0)), (1, .int p0)]) hx hb dX6_pegsOf_26 rfl hl (by decide) rfl (fun ls hl => ?_)
        refine lv_iinc (v := (nI (i4 + 1))) (lv' := [(3, .int (nI (i4 + 1))), (2, .int (x4_2 + (0 : Int32))), (0, .ref (q 0)), (1, .int p0)]) hx hb dX6_pegsOf_27 hl (k := 1) rfl (nI_1 i4) (by decide) rfl (fun ls hl => ?_)
        refine lv_goto (tgt := 4) hx hb dX6_pegsOf_30 (by decide) ?_
        have E : (f_X6_pegsOf_L4 v p0 (n4 + 1) i4 x4_2) = (f_X6_pegsOf_L4 v p0 n4 (i4 + 1) (x4_2 + (0 : Int32))) := (if_pos c_17).trans rfl
        rw [E] at kx
        exact ih4 (i4 + 1) (by omega) (x4_2 + (0 : Int32)) _ _ _  hP hD hS (lv_sub hl [0, 1, 2, 3] rfl) kx
      · refine lv_iconst (v := (1 : Int32)) hx hb dX6_pegsOf_20 (by decide) ?_
        refine lv_goto (tgt := 25) hx hb dX6_pegsOf_21 (by decide) ?_
        refine lv_iadd hx hb dX6_pegsOf_25 ?_
        refine lv_istore_n (lv' := [(2, .int (x4_2 + (1 : Int32))), (3, .int (nI i4)), (0, .ref (q 0)), (1, .int p0)]) hx hb dX6_pegsOf_26 rfl hl (by decide) rfl (fun ls hl => ?_)
        refine lv_iinc (v := (nI (i4 + 1))) (lv' := [(3, .int (nI (i4 + 1))), (2, .int (x4_2 + (1 : Int32))), (0, .ref (q 0)), (1, .int p0)]) hx hb dX6_pegsOf_27 hl (k := 1) rfl (nI_1 i4) (by decide) rfl (fun ls hl => ?_)
        refine lv_goto (tgt := 4) hx hb dX6_pegsOf_30 (by decide) ?_
        have E : (f_X6_pegsOf_L4 v p0 (n4 + 1) i4 x4_2) = (f_X6_pegsOf_L4 v p0 n4 (i4 + 1) (x4_2 + (1 : Int32))) := (if_neg c_17).trans rfl
        rw [E] at kx
        exact ih4 (i4 + 1) (by omega) (x4_2 + (1 : Int32)) _ _ _  hP hD hS (lv_sub hl [0, 1, 2, 3] rfl) kx
  refine L4 16 0 (by omega) (0 : Int32) _ _ _  hP hD hS (lv_sub hl [0, 1, 2, 3] rfl) (fun H locs ls hP hD hS hl => ?_)
  refine lv_iload_n hx hb dX6_pegsOf_33 rfl (lv_at hl 0 rfl) ?_
  have E : (f_X6_pegsOf v p0) = (f_X6_pegsOf_L4 v p0 16 0 (0 : Int32)) := rfl
  exact hret _ _ _ _ _ _ dX6_pegsOf_34 E.symm (rfl) rfl hP hD hS
abbrev rm_X6_marks : Room := { frames := 0, cells := 0, slots := 0, locals := 0 }
set_option maxRecDepth 20000 in
theorem zin_X6_marks_X6 : ∀ w ∈ wsX60, w ∈ wsX6_marks := by decide +kernel
def f_X6_marks_L4 (v : zCV) : Nat → Nat → Int32 → Int32
  | 0, i4, x4_1 => x4_1
  | n4 + 1, i4, x4_1 => (f_X6_marks_L4 v n4 (i4 + 1) (x4_1 + ((v.2 0) ((22 : Int32) + (nI i4)).toNatClampNeg)))
def f_X6_marks (v : zCV) : Int32 := (f_X6_marks_L4 v 6 0 (0 : Int32))
set_option maxRecDepth 100000 in
set_option maxHeartbeats 4000000 in
theorem m_X6_marks (l : Launch) (g : zG) (q : Nat → Nat) (v : zCV) : ZI l yX6_marks wsX6_marks rm_X6_marks g (mo g q v) [.ref (q 0)] (f_X6_marks v) (mo g q v) := by
  refine zopenI (cc := cX6_marks) (maxL := 3) (ret := .int) (by decide +kernel) rfl (Nat.le_of_ble_eq_true rfl) ?_
  intro p e s m below meth c A Q ls hx hb hml hown hts hP hK hD hA hN hl hret
  have hS : va_S A s.heap s.heap [] := va_S.rf
  have hl : lv_has ls 3 [(0, .ref (q 0))] := hl
  have hown : s.vm.findClass RX6 = some m.cls := hown
  refine lv_iconst (v := (0 : Int32)) hx hb dX6_marks_0 (by decide) ?_
  refine lv_istore_n (lv' := [(1, .int (0 : Int32)), (0, .ref (q 0))]) hx hb dX6_marks_1 rfl hl (by decide) rfl (fun ls hl => ?_)
  refine lv_iconst (v := (0 : Int32)) hx hb dX6_marks_2 (by decide) ?_
  refine lv_istore_n (lv' := [(2, .int (0 : Int32)), (1, .int (0 : Int32)), (0, .ref (q 0))]) hx hb dX6_marks_3 rfl hl (by decide) rfl (fun ls hl => ?_)
  have L4 : ∀ (n4 : Nat) (i4 : Nat), i4 + n4 = 6 → ∀ (x4_1 : Int32) (H : Heap) (locs : List Loc) (ls : Array Slot), va_P g.1 vwCl (mo g q v) H → va_D A (mo g q v) → va_S A s.heap H locs → lv_has ls 3 [(2, .int (nI i4)), (1, .int x4_1), (0, .ref (q 0))] → (∀ (H : Heap) (locs : List Loc) (ls : Array Slot), va_P g.1 vwCl (mo g q v) H → va_D A (mo g q v) → va_S A s.heap H locs → lv_has ls 3 [(1, .int (f_X6_marks_L4 v n4 i4 x4_1)), (0, .ref (q 0))] → W p l e rm_X6_marks s m ([.ref (q 0)] : List Value).toArray below meth c H locs 0 0 Q (F0 m 28 ls [])) → W p l e rm_X6_marks s m ([.ref (q 0)] : List Value).toArray below meth c H locs 0 0 Q (F0 m 4 ls []) := by
    intro n4
    induction n4 with
    | zero =>
      intro i4 hin4 x4_1 H locs ls hP hD hS hl kx
      refine lv_iload_n hx hb dX6_marks_4 rfl (lv_at hl 0 rfl) ?_
      refine lv_bipush (v := (6 : Int32)) hx hb dX6_marks_5 (by decide) ?_
      refine lv_icmp_ge (tgt := 28) hx hb dX6_marks_7 (by decide) (fun c_7 => ?_) (fun c_7 => ?_)
      rotate_left
      · exact absurd (by rw [show i4 = 6 by omega]; decide) c_7
      have E : (f_X6_marks_L4 v 0 i4 x4_1) = x4_1 := rfl
      rw [E] at kx
      exact kx _ _ _ hP hD hS (lv_sub hl [1, 2] rfl)
    | succ n4 ih4 =>
      intro i4 hin4 x4_1 H locs ls hP hD hS hl kx
      refine lv_iload_n hx hb dX6_marks_4 rfl (lv_at hl 0 rfl) ?_
      refine lv_bipush (v := (6 : Int32)) hx hb dX6_marks_5 (by decide) ?_
      refine lv_icmp_ge (tgt := 28) hx hb dX6_marks_7 (by decide) (fun c_7 => ?_) (fun c_7 => ?_)
      · exact absurd c_7 (nI_ge (a := i4) (b := 6) (by omega) (by omega))
      refine lv_iload_n hx hb dX6_marks_10 rfl (lv_at hl 1 rfl) ?_
      refine lv_aload_n hx hb dX6_marks_11 rfl (lv_at hl 2 rfl) ?_
      refine va_get (D := g.1) (ci := 6) (v := .ref (q 1)) (C := RX6) (T := TX6) (N := 12) hx hb hts (zin_X6_marks_X6) hown hK hP 0 rfl rfl 0 (by decide) (hts (.fieldLink RX6 7 "PegClerksModel" "all" "[I") (by decide +kernel)) (fun _ h9 => h9) rfl dX6_marks_12 ?_
      refine lv_bipush (v := (22 : Int32)) hx hb dX6_marks_15 (by decide) ?_
      refine lv_iload_n hx hb dX6_marks_17 rfl (lv_at hl 0 rfl) ?_
      refine lv_iadd hx hb dX6_marks_18 ?_
      refine z_iald (f := (v.2 0)) (k := ((22 : Int32) + (nI i4)).toNatClampNeg) hx hb hK hP 1 0 rfl rfl (zin_add (c := 22) (k := 6) rfl (vp_in_nI (by omega) (by omega)) (by omega) (by omega)) rfl dX6_marks_19 ?_
      refine lv_iadd hx hb dX6_marks_20 ?_
      refine lv_istore_n (lv' := [(1, .int (x4_1 + ((v.2 0) ((22 : Int32) + (nI i4)).toNatClampNeg))), (2, .int (nI i4)), (0, .ref (q 0))]) hx hb dX6_marks_21 rfl hl (by decide) rfl (fun ls hl => ?_)
      refine lv_iinc (v := (nI (i4 + 1))) (lv' := [(2, .int (nI (i4 + 1))), (1, .int (x4_1 + ((v.2 0) ((22 : Int32) + (nI i4)).toNatClampNeg))), (0, .ref (q 0))]) hx hb dX6_marks_22 hl (k := 1) rfl (nI_1 i4) (by decide) rfl (fun ls hl => ?_)
      refine lv_goto (tgt := 4) hx hb dX6_marks_25 (by decide) ?_
      have E : (f_X6_marks_L4 v (n4 + 1) i4 x4_1) = (f_X6_marks_L4 v n4 (i4 + 1) (x4_1 + ((v.2 0) ((22 : Int32) + (nI i4)).toNatClampNeg))) := rfl
      rw [E] at kx
      exact ih4 (i4 + 1) (by omega) (x4_1 + ((v.2 0) ((22 : Int32) + (nI i4)).toNatClampNeg)) _ _ _  hP hD hS (lv_sub hl [0, 1, 2] rfl) kx
  refine L4 6 0 (by omega) (0 : Int32) _ _ _  hP hD hS (lv_sub hl [0, 1, 2] rfl) (fun H locs ls hP hD hS hl => ?_)
  refine lv_iload_n hx hb dX6_marks_28 rfl (lv_at hl 0 rfl) ?_
  have E : (f_X6_marks v) = (f_X6_marks_L4 v 6 0 (0 : Int32)) := rfl
  exact hret _ _ _ _ _ _ dX6_marks_29 E.symm (rfl) rfl hP hD hS
abbrev rm_X6_wouldJam : Room := { frames := 3, cells := 0, slots := 0, locals := 66 }
set_option maxRecDepth 20000 in
theorem zin_X6_wouldJam_X6 : ∀ w ∈ wsX60, w ∈ wsX6_wouldJam := by decide +kernel
def r_X6_wouldJam_2 (v : zCV) (p0 : Int32) : Int32 := (f_X6_pegsIn v p0)
def f_X6_wouldJam (v : zCV) (p0 : Int32) : Int32 := if (r_X6_wouldJam_2 v p0) ≤ ((v.2 0) 3) then ((0 : Int32)) else ((1 : Int32))
set_option maxRecDepth 100000 in
set_option maxHeartbeats 4000000 in
theorem m_X6_wouldJam (l : Launch) (g : zG) (q : Nat → Nat) (v : zCV) (p0 : Int32) (h0 : vp_in p0 16) : ZI l yX6_wouldJam wsX6_wouldJam rm_X6_wouldJam g (mo g q v) [.ref (q 0), .int p0] (f_X6_wouldJam v p0) (mo g q v) := by
  refine zopenI (cc := cX6_wouldJam) (maxL := 2) (ret := .boolean) (by decide +kernel) rfl (Nat.le_of_ble_eq_true rfl) ?_
  intro p e s m below meth c A Q ls hx hb hml hown hts hP hK hD hA hN hl hret
  have hS : va_S A s.heap s.heap [] := va_S.rf
  have hl : lv_has ls 2 [(0, .ref (q 0)), (1, .int p0)] := hl
  have hown : s.vm.findClass RX6 = some m.cls := hown
  refine lv_aload_n hx hb dX6_wouldJam_0 rfl (lv_at hl 0 rfl) ?_
  refine lv_iload_n hx hb dX6_wouldJam_1 rfl (lv_at hl 1 rfl) ?_
  refine zcVi (n := 1) (As := [.int p0]) (rest := []) (Xr := []) (Xn := (mo g q v)) (ci := 6) (C := RX6) (T := TX6) (N := 12) (q0 := 0) hx hb hml hown hts hN (m_X6_pegsIn l g q v p0 h0) gX6_wouldJam_X6_pegsIn rfl (by decide +kernel) ⟨rfl, rfl⟩ ⟨Nat.le_of_ble_eq_true rfl, Nat.le_of_ble_eq_true rfl⟩ hK hP hD hS hA (zpn _) rfl rfl rfl hl.1 rfl (Nat.le_of_ble_eq_true rfl) dX6_wouldJam_2 ⟨Nat.zero_le _, Nat.zero_le _⟩ (zpn' _) (fun H locs hP hD hS => ?_)
  refine lv_aload_n hx hb dX6_wouldJam_5 rfl (lv_at hl 0 rfl) ?_
  refine va_get (D := g.1) (ci := 6) (v := .ref (q 1)) (C := RX6) (T := TX6) (N := 12) hx hb hts (zin_X6_wouldJam_X6) hown hK hP 0 rfl rfl 0 (by decide) (hts (.fieldLink RX6 7 "PegClerksModel" "all" "[I") (by decide +kernel)) (fun _ h9 => h9) rfl dX6_wouldJam_6 ?_
  refine lv_iconst (v := (3 : Int32)) hx hb dX6_wouldJam_9 (by decide) ?_
  refine z_iald (f := (v.2 0)) (k := 3) hx hb hK hP 1 0 rfl rfl (zlit (3 : Int32) 136 (by decide +kernel)) (by decide +kernel) dX6_wouldJam_10 ?_
  refine lv_icmp_le (tgt := 18) hx hb dX6_wouldJam_11 (by decide) (fun c_11 => ?_) (fun c_11 => ?_)
  · refine lv_iconst (v := (0 : Int32)) hx hb dX6_wouldJam_18 (by decide) ?_
    have E : (f_X6_wouldJam v p0) = (0 : Int32) := (if_pos c_11).trans rfl
    exact hret _ _ _ _ _ _ dX6_wouldJam_19 E.symm (rfl) rfl hP hD hS
  · refine lv_iconst (v := (1 : Int32)) hx hb dX6_wouldJam_14 (by decide) ?_
    refine lv_goto (tgt := 19) hx hb dX6_wouldJam_15 (by decide) ?_
    have E : (f_X6_wouldJam v p0) = (1 : Int32) := (if_neg c_11).trans rfl
    exact hret _ _ _ _ _ _ dX6_wouldJam_19 E.symm (rfl) rfl hP hD hS
abbrev rm_X6_newOne : Room := { frames := 0, cells := 0, slots := 0, locals := 0 }
set_option maxRecDepth 20000 in
theorem zin_X6_newOne_X6 : ∀ w ∈ wsX60, w ∈ wsX6_newOne := by decide +kernel
def s_X6_newOne_7 (v : zCV) : zCV := zA v 0 (upd (v.2 0) 7 (0 : Int32))
def s_X6_newOne_15 (v : zCV) : zCV := zA (s_X6_newOne_7 v) 0 (upd ((s_X6_newOne_7 v).2 0) 8 (0 : Int32))
def s_X6_newOne_23 (v : zCV) : zCV := zA (s_X6_newOne_15 v) 0 (upd ((s_X6_newOne_15 v).2 0) 9 (0 : Int32))
def f_X6_newOne (v : zCV) : zCV := (s_X6_newOne_23 v)
set_option maxRecDepth 100000 in
set_option maxHeartbeats 4000000 in
theorem m_X6_newOne (l : Launch) (g : zG) (q : Nat → Nat) (v : zCV) : ZV l yX6_newOne wsX6_newOne rm_X6_newOne g (mo g q v) [.ref (q 0)] (mo g q (f_X6_newOne v)) := by
  refine zopenV (cc := cX6_newOne) (maxL := 1) (by decide +kernel) rfl (Nat.le_of_ble_eq_true rfl) ?_
  intro p e s m below meth c A Q ls hx hb hml hown hts hP hK hD hA hN hl hret
  have hS : va_S A s.heap s.heap [] := va_S.rf
  have hl : lv_has ls 1 [(0, .ref (q 0))] := hl
  have hown : s.vm.findClass RX6 = some m.cls := hown
  refine lv_aload_n hx hb dX6_newOne_0 rfl (lv_at hl 0 rfl) ?_
  refine va_get (D := g.1) (ci := 6) (v := .ref (q 1)) (C := RX6) (T := TX6) (N := 12) hx hb hts (zin_X6_newOne_X6) hown hK hP 0 rfl rfl 0 (by decide) (hts (.fieldLink RX6 7 "PegClerksModel" "all" "[I") (by decide +kernel)) (fun _ h9 => h9) rfl dX6_newOne_1 ?_
  refine lv_bipush (v := (7 : Int32)) hx hb dX6_newOne_4 (by decide) ?_
  refine lv_iconst (v := (0 : Int32)) hx hb dX6_newOne_6 (by decide) ?_
  refine z_iast (f := (v.2 0)) (k := 7) hx hb hK hP hD hS 1 0 rfl rfl (zlit (7 : Int32) 136 (by decide +kernel)) (by decide +kernel) dX6_newOne_7 (fun H locs hP hD hS => ?_)
  have hP : va_P g.1 vwCl (mo g q (s_X6_newOne_7 v)) H := (congrArg (fun z => va_P g.1 vwCl z H) (mo_A0 g q v (upd (v.2 0) 7 (0 : Int32)))).mp hP
  have hD : va_D A (mo g q (s_X6_newOne_7 v)) := (congrArg (fun z => va_D A z) (mo_A0 g q v (upd (v.2 0) 7 (0 : Int32)))).mp hD
  refine lv_aload_n hx hb dX6_newOne_8 rfl (lv_at hl 0 rfl) ?_
  refine va_get (D := g.1) (ci := 6) (v := .ref (q 1)) (C := RX6) (T := TX6) (N := 12) hx hb hts (zin_X6_newOne_X6) hown hK hP 0 rfl rfl 0 (by decide) (hts (.fieldLink RX6 7 "PegClerksModel" "all" "[I") (by decide +kernel)) (fun _ h9 => h9) rfl dX6_newOne_9 ?_
  refine lv_bipush (v := (8 : Int32)) hx hb dX6_newOne_12 (by decide) ?_
  refine lv_iconst (v := (0 : Int32)) hx hb dX6_newOne_14 (by decide) ?_
  refine z_iast (f := ((s_X6_newOne_7 v).2 0)) (k := 8) hx hb hK hP hD hS 1 0 rfl rfl (zlit (8 : Int32) 136 (by decide +kernel)) (by decide +kernel) dX6_newOne_15 (fun H locs hP hD hS => ?_)
  have hP : va_P g.1 vwCl (mo g q (s_X6_newOne_15 v)) H := (congrArg (fun z => va_P g.1 vwCl z H) (mo_A0 g q (s_X6_newOne_7 v) (upd ((s_X6_newOne_7 v).2 0) 8 (0 : Int32)))).mp hP
  have hD : va_D A (mo g q (s_X6_newOne_15 v)) := (congrArg (fun z => va_D A z) (mo_A0 g q (s_X6_newOne_7 v) (upd ((s_X6_newOne_7 v).2 0) 8 (0 : Int32)))).mp hD
  refine lv_aload_n hx hb dX6_newOne_16 rfl (lv_at hl 0 rfl) ?_
  refine va_get (D := g.1) (ci := 6) (v := .ref (q 1)) (C := RX6) (T := TX6) (N := 12) hx hb hts (zin_X6_newOne_X6) hown hK hP 0 rfl rfl 0 (by decide) (hts (.fieldLink RX6 7 "PegClerksModel" "all" "[I") (by decide +kernel)) (fun _ h9 => h9) rfl dX6_newOne_17 ?_
  refine lv_bipush (v := (9 : Int32)) hx hb dX6_newOne_20 (by decide) ?_
  refine lv_iconst (v := (0 : Int32)) hx hb dX6_newOne_22 (by decide) ?_
  refine z_iast (f := ((s_X6_newOne_15 v).2 0)) (k := 9) hx hb hK hP hD hS 1 0 rfl rfl (zlit (9 : Int32) 136 (by decide +kernel)) (by decide +kernel) dX6_newOne_23 (fun H locs hP hD hS => ?_)
  have hP : va_P g.1 vwCl (mo g q (s_X6_newOne_23 v)) H := (congrArg (fun z => va_P g.1 vwCl z H) (mo_A0 g q (s_X6_newOne_15 v) (upd ((s_X6_newOne_15 v).2 0) 9 (0 : Int32)))).mp hP
  have hD : va_D A (mo g q (s_X6_newOne_23 v)) := (congrArg (fun z => va_D A z) (mo_A0 g q (s_X6_newOne_15 v) (upd ((s_X6_newOne_15 v).2 0) 9 (0 : Int32)))).mp hD
  have E : (f_X6_newOne v) = (s_X6_newOne_23 v) := rfl
  exact hret _ _ _ _ _ dX6_newOne_24 (congrArg (fun z => (mo g q z)) E).symm hP hD hS
abbrev rm_X6_falls : Room := { frames := 0, cells := 0, slots := 0, locals := 0 }
set_option maxRecDepth 20000 in
theorem zin_X6_falls_X6 : ∀ w ∈ wsX60, w ∈ wsX6_falls := by decide +kernel
def s_X6_falls_85 (v : zCV) (p0 : Int32) : zCV := zA v 0 (upd (v.2 0) ((16 : Int32) + p0).toNatClampNeg (((v.2 0) ((16 : Int32) + p0).toNatClampNeg) - ((v.2 0) 1)))
def s_X6_falls_98 (v : zCV) (p0 : Int32) : zCV := zA (s_X6_falls_85 v p0) 0 (upd ((s_X6_falls_85 v p0).2 0) ((22 : Int32) + p0).toNatClampNeg ((((s_X6_falls_85 v p0).2 0) ((22 : Int32) + p0).toNatClampNeg) + (1 : Int32)))
def s_X6_falls_111 (v : zCV) (p0 : Int32) : zCV := zA (s_X6_falls_98 v p0) 0 (upd ((s_X6_falls_98 v p0).2 0) 7 ((((s_X6_falls_98 v p0).2 0) 7) ||| ((1 : Int32) <<< (p0 &&& 31))))
def s_X6_falls_66 (v : zCV) (p0 : Int32) : zCV := zA v 0 (upd (v.2 0) ((28 : Int32) + p0).toNatClampNeg (((v.2 0) ((28 : Int32) + p0).toNatClampNeg) + (1 : Int32)))
def s_X6_falls_22 (v : zCV) : zCV := zA v 0 (upd (v.2 0) 8 (1 : Int32))
def s_X6_falls_35 (v : zCV) (p0 : Int32) : zCV := zA (s_X6_falls_22 v) 0 (upd ((s_X6_falls_22 v).2 0) ((34 : Int32) + p0).toNatClampNeg ((((s_X6_falls_22 v).2 0) ((34 : Int32) + p0).toNatClampNeg) + (1 : Int32)))
def s_X6_falls_85_2 (v : zCV) (p0 : Int32) : zCV := zA (s_X6_falls_35 v p0) 0 (upd ((s_X6_falls_35 v p0).2 0) ((16 : Int32) + p0).toNatClampNeg ((((s_X6_falls_35 v p0).2 0) ((16 : Int32) + p0).toNatClampNeg) - (((s_X6_falls_35 v p0).2 0) 1)))
def s_X6_falls_98_2 (v : zCV) (p0 : Int32) : zCV := zA (s_X6_falls_85_2 v p0) 0 (upd ((s_X6_falls_85_2 v p0).2 0) ((22 : Int32) + p0).toNatClampNeg ((((s_X6_falls_85_2 v p0).2 0) ((22 : Int32) + p0).toNatClampNeg) + (1 : Int32)))
def s_X6_falls_111_2 (v : zCV) (p0 : Int32) : zCV := zA (s_X6_falls_98_2 v p0) 0 (upd ((s_X6_falls_98_2 v p0).2 0) 7 ((((s_X6_falls_98_2 v p0).2 0) 7) ||| ((1 : Int32) <<< (p0 &&& 31))))
def s_X6_falls_66_2 (v : zCV) (p0 : Int32) : zCV := zA (s_X6_falls_35 v p0) 0 (upd ((s_X6_falls_35 v p0).2 0) ((28 : Int32) + p0).toNatClampNeg ((((s_X6_falls_35 v p0).2 0) ((28 : Int32) + p0).toNatClampNeg) + (1 : Int32)))
def f_X6_falls (v : zCV) (p0 : Int32) : zCV := if ((((v.2 0) 7) >>> (p0 &&& 31)) &&& (1 : Int32)) = (1 : Int32) then (if (((s_X6_falls_35 v p0).2 0) 1) ≤ (((s_X6_falls_35 v p0).2 0) ((16 : Int32) + p0).toNatClampNeg) then ((s_X6_falls_111_2 v p0)) else ((s_X6_falls_66_2 v p0))) else (if ((v.2 0) 1) ≤ ((v.2 0) ((16 : Int32) + p0).toNatClampNeg) then ((s_X6_falls_111 v p0)) else ((s_X6_falls_66 v p0)))
set_option maxRecDepth 100000 in
set_option maxHeartbeats 4000000 in
theorem m_X6_falls (l : Launch) (g : zG) (q : Nat → Nat) (v : zCV) (p0 : Int32) (h0 : vp_in p0 6) : ZV l yX6_falls wsX6_falls rm_X6_falls g (mo g q v) [.ref (q 0), .int p0] (mo g q (f_X6_falls v p0)) := by
  refine zopenV (cc := cX6_falls) (maxL := 2) (by decide +kernel) rfl (Nat.le_of_ble_eq_true rfl) ?_
  intro p e s m below meth c A Q ls hx hb hml hown hts hP hK hD hA hN hl hret
  have hS : va_S A s.heap s.heap [] := va_S.rf
  have hl : lv_has ls 2 [(0, .ref (q 0)), (1, .int p0)] := hl
  have hown : s.vm.findClass RX6 = some m.cls := hown
  refine lv_aload_n hx hb dX6_falls_0 rfl (lv_at hl 0 rfl) ?_
  refine va_get (D := g.1) (ci := 6) (v := .ref (q 1)) (C := RX6) (T := TX6) (N := 12) hx hb hts (zin_X6_falls_X6) hown hK hP 0 rfl rfl 0 (by decide) (hts (.fieldLink RX6 7 "PegClerksModel" "all" "[I") (by decide +kernel)) (fun _ h9 => h9) rfl dX6_falls_1 ?_
  refine lv_bipush (v := (7 : Int32)) hx hb dX6_falls_4 (by decide) ?_
  refine z_iald (f := (v.2 0)) (k := 7) hx hb hK hP 1 0 rfl rfl (zlit (7 : Int32) 136 (by decide +kernel)) (by decide +kernel) dX6_falls_6 ?_
  refine lv_iload_n hx hb dX6_falls_7 rfl (lv_at hl 1 rfl) ?_
  refine lv_ishr hx hb dX6_falls_8 ?_
  refine lv_iconst (v := (1 : Int32)) hx hb dX6_falls_9 (by decide) ?_
  refine lv_iand hx hb dX6_falls_10 ?_
  refine lv_iconst (v := (1 : Int32)) hx hb dX6_falls_11 (by decide) ?_
  refine lv_icmp_ne (tgt := 36) hx hb dX6_falls_12 (by decide) (fun c_12 => ?_) (fun c_12 => ?_)
  · refine lv_aload_n hx hb dX6_falls_36 rfl (lv_at hl 0 rfl) ?_
    refine va_get (D := g.1) (ci := 6) (v := .ref (q 1)) (C := RX6) (T := TX6) (N := 12) hx hb hts (zin_X6_falls_X6) hown hK hP 0 rfl rfl 0 (by decide) (hts (.fieldLink RX6 7 "PegClerksModel" "all" "[I") (by decide +kernel)) (fun _ h9 => h9) rfl dX6_falls_37 ?_
    refine lv_bipush (v := (16 : Int32)) hx hb dX6_falls_40 (by decide) ?_
    refine lv_iload_n hx hb dX6_falls_42 rfl (lv_at hl 1 rfl) ?_
    refine lv_iadd hx hb dX6_falls_43 ?_
    refine z_iald (f := (v.2 0)) (k := ((16 : Int32) + p0).toNatClampNeg) hx hb hK hP 1 0 rfl rfl (zin_add (c := 16) (k := 6) rfl h0 (by omega) (by omega)) rfl dX6_falls_44 ?_
    refine lv_aload_n hx hb dX6_falls_45 rfl (lv_at hl 0 rfl) ?_
    refine va_get (D := g.1) (ci := 6) (v := .ref (q 1)) (C := RX6) (T := TX6) (N := 12) hx hb hts (zin_X6_falls_X6) hown hK hP 0 rfl rfl 0 (by decide) (hts (.fieldLink RX6 7 "PegClerksModel" "all" "[I") (by decide +kernel)) (fun _ h9 => h9) rfl dX6_falls_46 ?_
    refine lv_iconst (v := (1 : Int32)) hx hb dX6_falls_49 (by decide) ?_
    refine z_iald (f := (v.2 0)) (k := 1) hx hb hK hP 1 0 rfl rfl (zlit (1 : Int32) 136 (by decide +kernel)) (by decide +kernel) dX6_falls_50 ?_
    refine lv_icmp_ge (tgt := 68) hx hb dX6_falls_51 (by decide) (fun c_51 => ?_) (fun c_51 => ?_)
    · refine lv_aload_n hx hb dX6_falls_68 rfl (lv_at hl 0 rfl) ?_
      refine va_get (D := g.1) (ci := 6) (v := .ref (q 1)) (C := RX6) (T := TX6) (N := 12) hx hb hts (zin_X6_falls_X6) hown hK hP 0 rfl rfl 0 (by decide) (hts (.fieldLink RX6 7 "PegClerksModel" "all" "[I") (by decide +kernel)) (fun _ h9 => h9) rfl dX6_falls_69 ?_
      refine lv_bipush (v := (16 : Int32)) hx hb dX6_falls_72 (by decide) ?_
      refine lv_iload_n hx hb dX6_falls_74 rfl (lv_at hl 1 rfl) ?_
      refine lv_iadd hx hb dX6_falls_75 ?_
      refine lv_dup2_11 hx hb dX6_falls_76 rfl rfl ?_
      refine z_iald (f := (v.2 0)) (k := ((16 : Int32) + p0).toNatClampNeg) hx hb hK hP 1 0 rfl rfl (zin_add (c := 16) (k := 6) rfl h0 (by omega) (by omega)) rfl dX6_falls_77 ?_
      refine lv_aload_n hx hb dX6_falls_78 rfl (lv_at hl 0 rfl) ?_
      refine va_get (D := g.1) (ci := 6) (v := .ref (q 1)) (C := RX6) (T := TX6) (N := 12) hx hb hts (zin_X6_falls_X6) hown hK hP 0 rfl rfl 0 (by decide) (hts (.fieldLink RX6 7 "PegClerksModel" "all" "[I") (by decide +kernel)) (fun _ h9 => h9) rfl dX6_falls_79 ?_
      refine lv_iconst (v := (1 : Int32)) hx hb dX6_falls_82 (by decide) ?_
      refine z_iald (f := (v.2 0)) (k := 1) hx hb hK hP 1 0 rfl rfl (zlit (1 : Int32) 136 (by decide +kernel)) (by decide +kernel) dX6_falls_83 ?_
      refine lv_isub hx hb dX6_falls_84 ?_
      refine z_iast (f := (v.2 0)) (k := ((16 : Int32) + p0).toNatClampNeg) hx hb hK hP hD hS 1 0 rfl rfl (zin_add (c := 16) (k := 6) rfl h0 (by omega) (by omega)) rfl dX6_falls_85 (fun H locs hP hD hS => ?_)
      have hP : va_P g.1 vwCl (mo g q (s_X6_falls_85 v p0)) H := (congrArg (fun z => va_P g.1 vwCl z H) (mo_A0 g q v (upd (v.2 0) ((16 : Int32) + p0).toNatClampNeg (((v.2 0) ((16 : Int32) + p0).toNatClampNeg) - ((v.2 0) 1))))).mp hP
      have hD : va_D A (mo g q (s_X6_falls_85 v p0)) := (congrArg (fun z => va_D A z) (mo_A0 g q v (upd (v.2 0) ((16 : Int32) + p0).toNatClampNeg (((v.2 0) ((16 : Int32) + p0).toNatClampNeg) - ((v.2 0) 1))))).mp hD
      refine lv_aload_n hx hb dX6_falls_86 rfl (lv_at hl 0 rfl) ?_
      refine va_get (D := g.1) (ci := 6) (v := .ref (q 1)) (C := RX6) (T := TX6) (N := 12) hx hb hts (zin_X6_falls_X6) hown hK hP 0 rfl rfl 0 (by decide) (hts (.fieldLink RX6 7 "PegClerksModel" "all" "[I") (by decide +kernel)) (fun _ h9 => h9) rfl dX6_falls_87 ?_
      refine lv_bipush (v := (22 : Int32)) hx hb dX6_falls_90 (by decide) ?_
      refine lv_iload_n hx hb dX6_falls_92 rfl (lv_at hl 1 rfl) ?_
      refine lv_iadd hx hb dX6_falls_93 ?_
      refine lv_dup2_11 hx hb dX6_falls_94 rfl rfl ?_
      refine z_iald (f := ((s_X6_falls_85 v p0).2 0)) (k := ((22 : Int32) + p0).toNatClampNeg) hx hb hK hP 1 0 rfl rfl (zin_add (c := 22) (k := 6) rfl h0 (by omega) (by omega)) rfl dX6_falls_95 ?_
      refine lv_iconst (v := (1 : Int32)) hx hb dX6_falls_96 (by decide) ?_
      refine lv_iadd hx hb dX6_falls_97 ?_
      refine z_iast (f := ((s_X6_falls_85 v p0).2 0)) (k := ((22 : Int32) + p0).toNatClampNeg) hx hb hK hP hD hS 1 0 rfl rfl (zin_add (c := 22) (k := 6) rfl h0 (by omega) (by omega)) rfl dX6_falls_98 (fun H locs hP hD hS => ?_)
      have hP : va_P g.1 vwCl (mo g q (s_X6_falls_98 v p0)) H := (congrArg (fun z => va_P g.1 vwCl z H) (mo_A0 g q (s_X6_falls_85 v p0) (upd ((s_X6_falls_85 v p0).2 0) ((22 : Int32) + p0).toNatClampNeg ((((s_X6_falls_85 v p0).2 0) ((22 : Int32) + p0).toNatClampNeg) + (1 : Int32))))).mp hP
      have hD : va_D A (mo g q (s_X6_falls_98 v p0)) := (congrArg (fun z => va_D A z) (mo_A0 g q (s_X6_falls_85 v p0) (upd ((s_X6_falls_85 v p0).2 0) ((22 : Int32) + p0).toNatClampNeg ((((s_X6_falls_85 v p0).2 0) ((22 : Int32) + p0).toNatClampNeg) + (1 : Int32))))).mp hD
      refine lv_aload_n hx hb dX6_falls_99 rfl (lv_at hl 0 rfl) ?_
      refine va_get (D := g.1) (ci := 6) (v := .ref (q 1)) (C := RX6) (T := TX6) (N := 12) hx hb hts (zin_X6_falls_X6) hown hK hP 0 rfl rfl 0 (by decide) (hts (.fieldLink RX6 7 "PegClerksModel" "all" "[I") (by decide +kernel)) (fun _ h9 => h9) rfl dX6_falls_100 ?_
      refine lv_bipush (v := (7 : Int32)) hx hb dX6_falls_103 (by decide) ?_
      refine lv_dup2_11 hx hb dX6_falls_105 rfl rfl ?_
      refine z_iald (f := ((s_X6_falls_98 v p0).2 0)) (k := 7) hx hb hK hP 1 0 rfl rfl (zlit (7 : Int32) 136 (by decide +kernel)) (by decide +kernel) dX6_falls_106 ?_
      refine lv_iconst (v := (1 : Int32)) hx hb dX6_falls_107 (by decide) ?_
      refine lv_iload_n hx hb dX6_falls_108 rfl (lv_at hl 1 rfl) ?_
      refine lv_ishl hx hb dX6_falls_109 ?_
      refine lv_ior hx hb dX6_falls_110 ?_
      refine z_iast (f := ((s_X6_falls_98 v p0).2 0)) (k := 7) hx hb hK hP hD hS 1 0 rfl rfl (zlit (7 : Int32) 136 (by decide +kernel)) (by decide +kernel) dX6_falls_111 (fun H locs hP hD hS => ?_)
      have hP : va_P g.1 vwCl (mo g q (s_X6_falls_111 v p0)) H := (congrArg (fun z => va_P g.1 vwCl z H) (mo_A0 g q (s_X6_falls_98 v p0) (upd ((s_X6_falls_98 v p0).2 0) 7 ((((s_X6_falls_98 v p0).2 0) 7) ||| ((1 : Int32) <<< (p0 &&& 31)))))).mp hP
      have hD : va_D A (mo g q (s_X6_falls_111 v p0)) := (congrArg (fun z => va_D A z) (mo_A0 g q (s_X6_falls_98 v p0) (upd ((s_X6_falls_98 v p0).2 0) 7 ((((s_X6_falls_98 v p0).2 0) 7) ||| ((1 : Int32) <<< (p0 &&& 31)))))).mp hD
      have E : (f_X6_falls v p0) = (s_X6_falls_111 v p0) := (if_neg c_12).trans ((if_pos c_51).trans rfl)
      exact hret _ _ _ _ _ dX6_falls_112 (congrArg (fun z => (mo g q z)) E).symm hP hD hS
    · refine lv_aload_n hx hb dX6_falls_54 rfl (lv_at hl 0 rfl) ?_
      refine va_get (D := g.1) (ci := 6) (v := .ref (q 1)) (C := RX6) (T := TX6) (N := 12) hx hb hts (zin_X6_falls_X6) hown hK hP 0 rfl rfl 0 (by decide) (hts (.fieldLink RX6 7 "PegClerksModel" "all" "[I") (by decide +kernel)) (fun _ h9 => h9) rfl dX6_falls_55 ?_
      refine lv_bipush (v := (28 : Int32)) hx hb dX6_falls_58 (by decide) ?_
      refine lv_iload_n hx hb dX6_falls_60 rfl (lv_at hl 1 rfl) ?_
      refine lv_iadd hx hb dX6_falls_61 ?_
      refine lv_dup2_11 hx hb dX6_falls_62 rfl rfl ?_
      refine z_iald (f := (v.2 0)) (k := ((28 : Int32) + p0).toNatClampNeg) hx hb hK hP 1 0 rfl rfl (zin_add (c := 28) (k := 6) rfl h0 (by omega) (by omega)) rfl dX6_falls_63 ?_
      refine lv_iconst (v := (1 : Int32)) hx hb dX6_falls_64 (by decide) ?_
      refine lv_iadd hx hb dX6_falls_65 ?_
      refine z_iast (f := (v.2 0)) (k := ((28 : Int32) + p0).toNatClampNeg) hx hb hK hP hD hS 1 0 rfl rfl (zin_add (c := 28) (k := 6) rfl h0 (by omega) (by omega)) rfl dX6_falls_66 (fun H locs hP hD hS => ?_)
      have hP : va_P g.1 vwCl (mo g q (s_X6_falls_66 v p0)) H := (congrArg (fun z => va_P g.1 vwCl z H) (mo_A0 g q v (upd (v.2 0) ((28 : Int32) + p0).toNatClampNeg (((v.2 0) ((28 : Int32) + p0).toNatClampNeg) + (1 : Int32))))).mp hP
      have hD : va_D A (mo g q (s_X6_falls_66 v p0)) := (congrArg (fun z => va_D A z) (mo_A0 g q v (upd (v.2 0) ((28 : Int32) + p0).toNatClampNeg (((v.2 0) ((28 : Int32) + p0).toNatClampNeg) + (1 : Int32))))).mp hD
      have E : (f_X6_falls v p0) = (s_X6_falls_66 v p0) := (if_neg c_12).trans ((if_neg c_51).trans rfl)
      exact hret _ _ _ _ _ dX6_falls_67 (congrArg (fun z => (mo g q z)) E).symm hP hD hS
  · refine lv_aload_n hx hb dX6_falls_15 rfl (lv_at hl 0 rfl) ?_
    refine va_get (D := g.1) (ci := 6) (v := .ref (q 1)) (C := RX6) (T := TX6) (N := 12) hx hb hts (zin_X6_falls_X6) hown hK hP 0 rfl rfl 0 (by decide) (hts (.fieldLink RX6 7 "PegClerksModel" "all" "[I") (by decide +kernel)) (fun _ h9 => h9) rfl dX6_falls_16 ?_
    refine lv_bipush (v := (8 : Int32)) hx hb dX6_falls_19 (by decide) ?_
    refine lv_iconst (v := (1 : Int32)) hx hb dX6_falls_21 (by decide) ?_
    refine z_iast (f := (v.2 0)) (k := 8) hx hb hK hP hD hS 1 0 rfl rfl (zlit (8 : Int32) 136 (by decide +kernel)) (by decide +kernel) dX6_falls_22 (fun H locs hP hD hS => ?_)
    have hP : va_P g.1 vwCl (mo g q (s_X6_falls_22 v)) H := (congrArg (fun z => va_P g.1 vwCl z H) (mo_A0 g q v (upd (v.2 0) 8 (1 : Int32)))).mp hP
    have hD : va_D A (mo g q (s_X6_falls_22 v)) := (congrArg (fun z => va_D A z) (mo_A0 g q v (upd (v.2 0) 8 (1 : Int32)))).mp hD
    refine lv_aload_n hx hb dX6_falls_23 rfl (lv_at hl 0 rfl) ?_
    refine va_get (D := g.1) (ci := 6) (v := .ref (q 1)) (C := RX6) (T := TX6) (N := 12) hx hb hts (zin_X6_falls_X6) hown hK hP 0 rfl rfl 0 (by decide) (hts (.fieldLink RX6 7 "PegClerksModel" "all" "[I") (by decide +kernel)) (fun _ h9 => h9) rfl dX6_falls_24 ?_
    refine lv_bipush (v := (34 : Int32)) hx hb dX6_falls_27 (by decide) ?_
    refine lv_iload_n hx hb dX6_falls_29 rfl (lv_at hl 1 rfl) ?_
    refine lv_iadd hx hb dX6_falls_30 ?_
    refine lv_dup2_11 hx hb dX6_falls_31 rfl rfl ?_
    refine z_iald (f := ((s_X6_falls_22 v).2 0)) (k := ((34 : Int32) + p0).toNatClampNeg) hx hb hK hP 1 0 rfl rfl (zin_add (c := 34) (k := 6) rfl h0 (by omega) (by omega)) rfl dX6_falls_32 ?_
    refine lv_iconst (v := (1 : Int32)) hx hb dX6_falls_33 (by decide) ?_
    refine lv_iadd hx hb dX6_falls_34 ?_
    refine z_iast (f := ((s_X6_falls_22 v).2 0)) (k := ((34 : Int32) + p0).toNatClampNeg) hx hb hK hP hD hS 1 0 rfl rfl (zin_add (c := 34) (k := 6) rfl h0 (by omega) (by omega)) rfl dX6_falls_35 (fun H locs hP hD hS => ?_)
    have hP : va_P g.1 vwCl (mo g q (s_X6_falls_35 v p0)) H := (congrArg (fun z => va_P g.1 vwCl z H) (mo_A0 g q (s_X6_falls_22 v) (upd ((s_X6_falls_22 v).2 0) ((34 : Int32) + p0).toNatClampNeg ((((s_X6_falls_22 v).2 0) ((34 : Int32) + p0).toNatClampNeg) + (1 : Int32))))).mp hP
    have hD : va_D A (mo g q (s_X6_falls_35 v p0)) := (congrArg (fun z => va_D A z) (mo_A0 g q (s_X6_falls_22 v) (upd ((s_X6_falls_22 v).2 0) ((34 : Int32) + p0).toNatClampNeg ((((s_X6_falls_22 v).2 0) ((34 : Int32) + p0).toNatClampNeg) + (1 : Int32))))).mp hD
    refine lv_aload_n hx hb dX6_falls_36 rfl (lv_at hl 0 rfl) ?_
    refine va_get (D := g.1) (ci := 6) (v := .ref (q 1)) (C := RX6) (T := TX6) (N := 12) hx hb hts (zin_X6_falls_X6) hown hK hP 0 rfl rfl 0 (by decide) (hts (.fieldLink RX6 7 "PegClerksModel" "all" "[I") (by decide +kernel)) (fun _ h9 => h9) rfl dX6_falls_37 ?_
    refine lv_bipush (v := (16 : Int32)) hx hb dX6_falls_40 (by decide) ?_
    refine lv_iload_n hx hb dX6_falls_42 rfl (lv_at hl 1 rfl) ?_
    refine lv_iadd hx hb dX6_falls_43 ?_
    refine z_iald (f := ((s_X6_falls_35 v p0).2 0)) (k := ((16 : Int32) + p0).toNatClampNeg) hx hb hK hP 1 0 rfl rfl (zin_add (c := 16) (k := 6) rfl h0 (by omega) (by omega)) rfl dX6_falls_44 ?_
    refine lv_aload_n hx hb dX6_falls_45 rfl (lv_at hl 0 rfl) ?_
    refine va_get (D := g.1) (ci := 6) (v := .ref (q 1)) (C := RX6) (T := TX6) (N := 12) hx hb hts (zin_X6_falls_X6) hown hK hP 0 rfl rfl 0 (by decide) (hts (.fieldLink RX6 7 "PegClerksModel" "all" "[I") (by decide +kernel)) (fun _ h9 => h9) rfl dX6_falls_46 ?_
    refine lv_iconst (v := (1 : Int32)) hx hb dX6_falls_49 (by decide) ?_
    refine z_iald (f := ((s_X6_falls_35 v p0).2 0)) (k := 1) hx hb hK hP 1 0 rfl rfl (zlit (1 : Int32) 136 (by decide +kernel)) (by decide +kernel) dX6_falls_50 ?_
    refine lv_icmp_ge (tgt := 68) hx hb dX6_falls_51 (by decide) (fun c_51 => ?_) (fun c_51 => ?_)
    · refine lv_aload_n hx hb dX6_falls_68 rfl (lv_at hl 0 rfl) ?_
      refine va_get (D := g.1) (ci := 6) (v := .ref (q 1)) (C := RX6) (T := TX6) (N := 12) hx hb hts (zin_X6_falls_X6) hown hK hP 0 rfl rfl 0 (by decide) (hts (.fieldLink RX6 7 "PegClerksModel" "all" "[I") (by decide +kernel)) (fun _ h9 => h9) rfl dX6_falls_69 ?_
      refine lv_bipush (v := (16 : Int32)) hx hb dX6_falls_72 (by decide) ?_
      refine lv_iload_n hx hb dX6_falls_74 rfl (lv_at hl 1 rfl) ?_
      refine lv_iadd hx hb dX6_falls_75 ?_
      refine lv_dup2_11 hx hb dX6_falls_76 rfl rfl ?_
      refine z_iald (f := ((s_X6_falls_35 v p0).2 0)) (k := ((16 : Int32) + p0).toNatClampNeg) hx hb hK hP 1 0 rfl rfl (zin_add (c := 16) (k := 6) rfl h0 (by omega) (by omega)) rfl dX6_falls_77 ?_
      refine lv_aload_n hx hb dX6_falls_78 rfl (lv_at hl 0 rfl) ?_
      refine va_get (D := g.1) (ci := 6) (v := .ref (q 1)) (C := RX6) (T := TX6) (N := 12) hx hb hts (zin_X6_falls_X6) hown hK hP 0 rfl rfl 0 (by decide) (hts (.fieldLink RX6 7 "PegClerksModel" "all" "[I") (by decide +kernel)) (fun _ h9 => h9) rfl dX6_falls_79 ?_
      refine lv_iconst (v := (1 : Int32)) hx hb dX6_falls_82 (by decide) ?_
      refine z_iald (f := ((s_X6_falls_35 v p0).2 0)) (k := 1) hx hb hK hP 1 0 rfl rfl (zlit (1 : Int32) 136 (by decide +kernel)) (by decide +kernel) dX6_falls_83 ?_
      refine lv_isub hx hb dX6_falls_84 ?_
      refine z_iast (f := ((s_X6_falls_35 v p0).2 0)) (k := ((16 : Int32) + p0).toNatClampNeg) hx hb hK hP hD hS 1 0 rfl rfl (zin_add (c := 16) (k := 6) rfl h0 (by omega) (by omega)) rfl dX6_falls_85 (fun H locs hP hD hS => ?_)
      have hP : va_P g.1 vwCl (mo g q (s_X6_falls_85_2 v p0)) H := (congrArg (fun z => va_P g.1 vwCl z H) (mo_A0 g q (s_X6_falls_35 v p0) (upd ((s_X6_falls_35 v p0).2 0) ((16 : Int32) + p0).toNatClampNeg ((((s_X6_falls_35 v p0).2 0) ((16 : Int32) + p0).toNatClampNeg) - (((s_X6_falls_35 v p0).2 0) 1))))).mp hP
      have hD : va_D A (mo g q (s_X6_falls_85_2 v p0)) := (congrArg (fun z => va_D A z) (mo_A0 g q (s_X6_falls_35 v p0) (upd ((s_X6_falls_35 v p0).2 0) ((16 : Int32) + p0).toNatClampNeg ((((s_X6_falls_35 v p0).2 0) ((16 : Int32) + p0).toNatClampNeg) - (((s_X6_falls_35 v p0).2 0) 1))))).mp hD
      refine lv_aload_n hx hb dX6_falls_86 rfl (lv_at hl 0 rfl) ?_
      refine va_get (D := g.1) (ci := 6) (v := .ref (q 1)) (C := RX6) (T := TX6) (N := 12) hx hb hts (zin_X6_falls_X6) hown hK hP 0 rfl rfl 0 (by decide) (hts (.fieldLink RX6 7 "PegClerksModel" "all" "[I") (by decide +kernel)) (fun _ h9 => h9) rfl dX6_falls_87 ?_
      refine lv_bipush (v := (22 : Int32)) hx hb dX6_falls_90 (by decide) ?_
      refine lv_iload_n hx hb dX6_falls_92 rfl (lv_at hl 1 rfl) ?_
      refine lv_iadd hx hb dX6_falls_93 ?_
      refine lv_dup2_11 hx hb dX6_falls_94 rfl rfl ?_
      refine z_iald (f := ((s_X6_falls_85_2 v p0).2 0)) (k := ((22 : Int32) + p0).toNatClampNeg) hx hb hK hP 1 0 rfl rfl (zin_add (c := 22) (k := 6) rfl h0 (by omega) (by omega)) rfl dX6_falls_95 ?_
      refine lv_iconst (v := (1 : Int32)) hx hb dX6_falls_96 (by decide) ?_
      refine lv_iadd hx hb dX6_falls_97 ?_
      refine z_iast (f := ((s_X6_falls_85_2 v p0).2 0)) (k := ((22 : Int32) + p0).toNatClampNeg) hx hb hK hP hD hS 1 0 rfl rfl (zin_add (c := 22) (k := 6) rfl h0 (by omega) (by omega)) rfl dX6_falls_98 (fun H locs hP hD hS => ?_)
      have hP : va_P g.1 vwCl (mo g q (s_X6_falls_98_2 v p0)) H := (congrArg (fun z => va_P g.1 vwCl z H) (mo_A0 g q (s_X6_falls_85_2 v p0) (upd ((s_X6_falls_85_2 v p0).2 0) ((22 : Int32) + p0).toNatClampNeg ((((s_X6_falls_85_2 v p0).2 0) ((22 : Int32) + p0).toNatClampNeg) + (1 : Int32))))).mp hP
      have hD : va_D A (mo g q (s_X6_falls_98_2 v p0)) := (congrArg (fun z => va_D A z) (mo_A0 g q (s_X6_falls_85_2 v p0) (upd ((s_X6_falls_85_2 v p0).2 0) ((22 : Int32) + p0).toNatClampNeg ((((s_X6_falls_85_2 v p0).2 0) ((22 : Int32) + p0).toNatClampNeg) + (1 : Int32))))).mp hD
      refine lv_aload_n hx hb dX6_falls_99 rfl (lv_at hl 0 rfl) ?_
      refine va_get (D := g.1) (ci := 6) (v := .ref (q 1)) (C := RX6) (T := TX6) (N := 12) hx hb hts (zin_X6_falls_X6) hown hK hP 0 rfl rfl 0 (by decide) (hts (.fieldLink RX6 7 "PegClerksModel" "all" "[I") (by decide +kernel)) (fun _ h9 => h9) rfl dX6_falls_100 ?_
      refine lv_bipush (v := (7 : Int32)) hx hb dX6_falls_103 (by decide) ?_
      refine lv_dup2_11 hx hb dX6_falls_105 rfl rfl ?_
      refine z_iald (f := ((s_X6_falls_98_2 v p0).2 0)) (k := 7) hx hb hK hP 1 0 rfl rfl (zlit (7 : Int32) 136 (by decide +kernel)) (by decide +kernel) dX6_falls_106 ?_
      refine lv_iconst (v := (1 : Int32)) hx hb dX6_falls_107 (by decide) ?_
      refine lv_iload_n hx hb dX6_falls_108 rfl (lv_at hl 1 rfl) ?_
      refine lv_ishl hx hb dX6_falls_109 ?_
      refine lv_ior hx hb dX6_falls_110 ?_
      refine z_iast (f := ((s_X6_falls_98_2 v p0).2 0)) (k := 7) hx hb hK hP hD hS 1 0 rfl rfl (zlit (7 : Int32) 136 (by decide +kernel)) (by decide +kernel) dX6_falls_111 (fun H locs hP hD hS => ?_)
      have hP : va_P g.1 vwCl (mo g q (s_X6_falls_111_2 v p0)) H := (congrArg (fun z => va_P g.1 vwCl z H) (mo_A0 g q (s_X6_falls_98_2 v p0) (upd ((s_X6_falls_98_2 v p0).2 0) 7 ((((s_X6_falls_98_2 v p0).2 0) 7) ||| ((1 : Int32) <<< (p0 &&& 31)))))).mp hP
      have hD : va_D A (mo g q (s_X6_falls_111_2 v p0)) := (congrArg (fun z => va_D A z) (mo_A0 g q (s_X6_falls_98_2 v p0) (upd ((s_X6_falls_98_2 v p0).2 0) 7 ((((s_X6_falls_98_2 v p0).2 0) 7) ||| ((1 : Int32) <<< (p0 &&& 31)))))).mp hD
      have E : (f_X6_falls v p0) = (s_X6_falls_111_2 v p0) := (if_pos c_12).trans ((if_pos c_51).trans rfl)
      exact hret _ _ _ _ _ dX6_falls_112 (congrArg (fun z => (mo g q z)) E).symm hP hD hS
    · refine lv_aload_n hx hb dX6_falls_54 rfl (lv_at hl 0 rfl) ?_
      refine va_get (D := g.1) (ci := 6) (v := .ref (q 1)) (C := RX6) (T := TX6) (N := 12) hx hb hts (zin_X6_falls_X6) hown hK hP 0 rfl rfl 0 (by decide) (hts (.fieldLink RX6 7 "PegClerksModel" "all" "[I") (by decide +kernel)) (fun _ h9 => h9) rfl dX6_falls_55 ?_
      refine lv_bipush (v := (28 : Int32)) hx hb dX6_falls_58 (by decide) ?_
      refine lv_iload_n hx hb dX6_falls_60 rfl (lv_at hl 1 rfl) ?_
      refine lv_iadd hx hb dX6_falls_61 ?_
      refine lv_dup2_11 hx hb dX6_falls_62 rfl rfl ?_
      refine z_iald (f := ((s_X6_falls_35 v p0).2 0)) (k := ((28 : Int32) + p0).toNatClampNeg) hx hb hK hP 1 0 rfl rfl (zin_add (c := 28) (k := 6) rfl h0 (by omega) (by omega)) rfl dX6_falls_63 ?_
      refine lv_iconst (v := (1 : Int32)) hx hb dX6_falls_64 (by decide) ?_
      refine lv_iadd hx hb dX6_falls_65 ?_
      refine z_iast (f := ((s_X6_falls_35 v p0).2 0)) (k := ((28 : Int32) + p0).toNatClampNeg) hx hb hK hP hD hS 1 0 rfl rfl (zin_add (c := 28) (k := 6) rfl h0 (by omega) (by omega)) rfl dX6_falls_66 (fun H locs hP hD hS => ?_)
      have hP : va_P g.1 vwCl (mo g q (s_X6_falls_66_2 v p0)) H := (congrArg (fun z => va_P g.1 vwCl z H) (mo_A0 g q (s_X6_falls_35 v p0) (upd ((s_X6_falls_35 v p0).2 0) ((28 : Int32) + p0).toNatClampNeg ((((s_X6_falls_35 v p0).2 0) ((28 : Int32) + p0).toNatClampNeg) + (1 : Int32))))).mp hP
      have hD : va_D A (mo g q (s_X6_falls_66_2 v p0)) := (congrArg (fun z => va_D A z) (mo_A0 g q (s_X6_falls_35 v p0) (upd ((s_X6_falls_35 v p0).2 0) ((28 : Int32) + p0).toNatClampNeg ((((s_X6_falls_35 v p0).2 0) ((28 : Int32) + p0).toNatClampNeg) + (1 : Int32))))).mp hD
      have E : (f_X6_falls v p0) = (s_X6_falls_66_2 v p0) := (if_pos c_12).trans ((if_neg c_51).trans rfl)
      exact hret _ _ _ _ _ dX6_falls_67 (congrArg (fun z => (mo g q z)) E).symm hP hD hS
abbrev rm_X6_wears : Room := { frames := 1, cells := 0, slots := 0, locals := 21 }
set_option maxRecDepth 20000 in
theorem zin_X6_wears_X6 : ∀ w ∈ wsX60, w ∈ wsX6_wears := by decide +kernel
def s_X6_wears_13 (v : zCV) (p0 : Int32) (p1 : Int32) : zCV := zA v 0 (upd (v.2 0) (f_X6_at p0 p1).toNatClampNeg (((v.2 0) (f_X6_at p0 p1).toNatClampNeg) + (1 : Int32)))
def s_X6_wears_53 (v : zCV) (p0 : Int32) (p1 : Int32) : zCV := zA (s_X6_wears_13 v p0 p1) 0 (upd ((s_X6_wears_13 v p0 p1).2 0) (f_X6_at p0 p1).toNatClampNeg (-6 : Int32))
def s_X6_wears_64 (v : zCV) (p0 : Int32) (p1 : Int32) : zCV := zA (s_X6_wears_53 v p0 p1) 0 (upd ((s_X6_wears_53 v p0 p1).2 0) 15 ((((s_X6_wears_53 v p0 p1).2 0) 15) + (1 : Int32)))
def f_X6_wears (v : zCV) (p0 : Int32) (p1 : Int32) : zCV := if (((s_X6_wears_13 v p0 p1).2 0) 2) = (0 : Int32) then ((s_X6_wears_13 v p0 p1)) else (if (((s_X6_wears_13 v p0 p1).2 0) (f_X6_at p0 p1).toNatClampNeg) < (((s_X6_wears_13 v p0 p1).2 0) 2) then ((s_X6_wears_13 v p0 p1)) else ((s_X6_wears_64 v p0 p1)))
set_option maxRecDepth 100000 in
set_option maxHeartbeats 4000000 in
theorem m_X6_wears (l : Launch) (g : zG) (q : Nat → Nat) (v : zCV) (p0 : Int32) (p1 : Int32) (h0 : vp_in p0 16) (h1 : vp_in p1 6) : ZV l yX6_wears wsX6_wears rm_X6_wears g (mo g q v) [.ref (q 0), .int p0, .int p1] (mo g q (f_X6_wears v p0 p1)) := by
  refine zopenV (cc := cX6_wears) (maxL := 3) (by decide +kernel) rfl (Nat.le_of_ble_eq_true rfl) ?_
  intro p e s m below meth c A Q ls hx hb hml hown hts hP hK hD hA hN hl hret
  have hS : va_S A s.heap s.heap [] := va_S.rf
  have hl : lv_has ls 3 [(0, .ref (q 0)), (1, .int p0), (2, .int p1)] := hl
  have hown : s.vm.findClass RX6 = some m.cls := hown
  refine lv_aload_n hx hb dX6_wears_0 rfl (lv_at hl 0 rfl) ?_
  refine va_get (D := g.1) (ci := 6) (v := .ref (q 1)) (C := RX6) (T := TX6) (N := 12) hx hb hts (zin_X6_wears_X6) hown hK hP 0 rfl rfl 0 (by decide) (hts (.fieldLink RX6 7 "PegClerksModel" "all" "[I") (by decide +kernel)) (fun _ h9 => h9) rfl dX6_wears_1 ?_
  refine lv_iload_n hx hb dX6_wears_4 rfl (lv_at hl 1 rfl) ?_
  refine lv_iload_n hx hb dX6_wears_5 rfl (lv_at hl 2 rfl) ?_
  refine zcSi (n := 2) (As := [.int p0, .int p1]) (rest := [.ref (q 1)]) hx hb hml hown hts hN (m_X6_at l g p0 p1) gX6_wears_X6_at rfl (by decide +kernel) ⟨rfl, rfl⟩ ⟨Nat.le_of_ble_eq_true rfl, Nat.le_of_ble_eq_true rfl⟩ hK hP hD hS hA rfl hl.1 rfl (Nat.le_of_ble_eq_true rfl) dX6_wears_6 ⟨Nat.zero_le _, Nat.zero_le _⟩ (fun H locs hP hD hS => ?_)
  refine lv_dup2_11 hx hb dX6_wears_9 rfl rfl ?_
  refine z_iald (f := (v.2 0)) (k := (f_X6_at p0 p1).toNatClampNeg) hx hb hK hP 1 0 rfl rfl (zin_at h0 h1) rfl dX6_wears_10 ?_
  refine lv_iconst (v := (1 : Int32)) hx hb dX6_wears_11 (by decide) ?_
  refine lv_iadd hx hb dX6_wears_12 ?_
  refine z_iast (f := (v.2 0)) (k := (f_X6_at p0 p1).toNatClampNeg) hx hb hK hP hD hS 1 0 rfl rfl (zin_at h0 h1) rfl dX6_wears_13 (fun H locs hP hD hS => ?_)
  have hP : va_P g.1 vwCl (mo g q (s_X6_wears_13 v p0 p1)) H := (congrArg (fun z => va_P g.1 vwCl z H) (mo_A0 g q v (upd (v.2 0) (f_X6_at p0 p1).toNatClampNeg (((v.2 0) (f_X6_at p0 p1).toNatClampNeg) + (1 : Int32))))).mp hP
  have hD : va_D A (mo g q (s_X6_wears_13 v p0 p1)) := (congrArg (fun z => va_D A z) (mo_A0 g q v (upd (v.2 0) (f_X6_at p0 p1).toNatClampNeg (((v.2 0) (f_X6_at p0 p1).toNatClampNeg) + (1 : Int32))))).mp hD
  refine lv_aload_n hx hb dX6_wears_14 rfl (lv_at hl 0 rfl) ?_
  refine va_get (D := g.1) (ci := 6) (v := .ref (q 1)) (C := RX6) (T := TX6) (N := 12) hx hb hts (zin_X6_wears_X6) hown hK hP 0 rfl rfl 0 (by decide) (hts (.fieldLink RX6 7 "PegClerksModel" "all" "[I") (by decide +kernel)) (fun _ h9 => h9) rfl dX6_wears_15 ?_
  refine lv_iconst (v := (2 : Int32)) hx hb dX6_wears_18 (by decide) ?_
  refine z_iald (f := ((s_X6_wears_13 v p0 p1).2 0)) (k := 2) hx hb hK hP 1 0 rfl rfl (zlit (2 : Int32) 136 (by decide +kernel)) (by decide +kernel) dX6_wears_19 ?_
  refine lv_if_eq (tgt := 65) hx hb dX6_wears_20 (by decide) (fun c_20 => ?_) (fun c_20 => ?_)
  · have E : (f_X6_wears v p0 p1) = (s_X6_wears_13 v p0 p1) := (if_pos c_20).trans rfl
    exact hret _ _ _ _ _ dX6_wears_65 (congrArg (fun z => (mo g q z)) E).symm hP hD hS
  · refine lv_aload_n hx hb dX6_wears_23 rfl (lv_at hl 0 rfl) ?_
    refine va_get (D := g.1) (ci := 6) (v := .ref (q 1)) (C := RX6) (T := TX6) (N := 12) hx hb hts (zin_X6_wears_X6) hown hK hP 0 rfl rfl 0 (by decide) (hts (.fieldLink RX6 7 "PegClerksModel" "all" "[I") (by decide +kernel)) (fun _ h9 => h9) rfl dX6_wears_24 ?_
    refine lv_iload_n hx hb dX6_wears_27 rfl (lv_at hl 1 rfl) ?_
    refine lv_iload_n hx hb dX6_wears_28 rfl (lv_at hl 2 rfl) ?_
    refine zcSi (n := 2) (As := [.int p0, .int p1]) (rest := [.ref (q 1)]) hx hb hml hown hts hN (m_X6_at l g p0 p1) gX6_wears_X6_at rfl (by decide +kernel) ⟨rfl, rfl⟩ ⟨Nat.le_of_ble_eq_true rfl, Nat.le_of_ble_eq_true rfl⟩ hK hP hD hS hA rfl hl.1 rfl (Nat.le_of_ble_eq_true rfl) dX6_wears_29 ⟨Nat.zero_le _, Nat.zero_le _⟩ (fun H locs hP hD hS => ?_)
    refine z_iald (f := ((s_X6_wears_13 v p0 p1).2 0)) (k := (f_X6_at p0 p1).toNatClampNeg) hx hb hK hP 1 0 rfl rfl (zin_at h0 h1) rfl dX6_wears_32 ?_
    refine lv_aload_n hx hb dX6_wears_33 rfl (lv_at hl 0 rfl) ?_
    refine va_get (D := g.1) (ci := 6) (v := .ref (q 1)) (C := RX6) (T := TX6) (N := 12) hx hb hts (zin_X6_wears_X6) hown hK hP 0 rfl rfl 0 (by decide) (hts (.fieldLink RX6 7 "PegClerksModel" "all" "[I") (by decide +kernel)) (fun _ h9 => h9) rfl dX6_wears_34 ?_
    refine lv_iconst (v := (2 : Int32)) hx hb dX6_wears_37 (by decide) ?_
    refine z_iald (f := ((s_X6_wears_13 v p0 p1).2 0)) (k := 2) hx hb hK hP 1 0 rfl rfl (zlit (2 : Int32) 136 (by decide +kernel)) (by decide +kernel) dX6_wears_38 ?_
    refine lv_icmp_lt (tgt := 65) hx hb dX6_wears_39 (by decide) (fun c_39 => ?_) (fun c_39 => ?_)
    · have E : (f_X6_wears v p0 p1) = (s_X6_wears_13 v p0 p1) := (if_neg c_20).trans ((if_pos c_39).trans rfl)
      exact hret _ _ _ _ _ dX6_wears_65 (congrArg (fun z => (mo g q z)) E).symm hP hD hS
    · refine lv_aload_n hx hb dX6_wears_42 rfl (lv_at hl 0 rfl) ?_
      refine va_get (D := g.1) (ci := 6) (v := .ref (q 1)) (C := RX6) (T := TX6) (N := 12) hx hb hts (zin_X6_wears_X6) hown hK hP 0 rfl rfl 0 (by decide) (hts (.fieldLink RX6 7 "PegClerksModel" "all" "[I") (by decide +kernel)) (fun _ h9 => h9) rfl dX6_wears_43 ?_
      refine lv_iload_n hx hb dX6_wears_46 rfl (lv_at hl 1 rfl) ?_
      refine lv_iload_n hx hb dX6_wears_47 rfl (lv_at hl 2 rfl) ?_
      refine zcSi (n := 2) (As := [.int p0, .int p1]) (rest := [.ref (q 1)]) hx hb hml hown hts hN (m_X6_at l g p0 p1) gX6_wears_X6_at rfl (by decide +kernel) ⟨rfl, rfl⟩ ⟨Nat.le_of_ble_eq_true rfl, Nat.le_of_ble_eq_true rfl⟩ hK hP hD hS hA rfl hl.1 rfl (Nat.le_of_ble_eq_true rfl) dX6_wears_48 ⟨Nat.zero_le _, Nat.zero_le _⟩ (fun H locs hP hD hS => ?_)
      refine lv_bipush (v := (-6 : Int32)) hx hb dX6_wears_51 (by decide) ?_
      refine z_iast (f := ((s_X6_wears_13 v p0 p1).2 0)) (k := (f_X6_at p0 p1).toNatClampNeg) hx hb hK hP hD hS 1 0 rfl rfl (zin_at h0 h1) rfl dX6_wears_53 (fun H locs hP hD hS => ?_)
      have hP : va_P g.1 vwCl (mo g q (s_X6_wears_53 v p0 p1)) H := (congrArg (fun z => va_P g.1 vwCl z H) (mo_A0 g q (s_X6_wears_13 v p0 p1) (upd ((s_X6_wears_13 v p0 p1).2 0) (f_X6_at p0 p1).toNatClampNeg (-6 : Int32)))).mp hP
      have hD : va_D A (mo g q (s_X6_wears_53 v p0 p1)) := (congrArg (fun z => va_D A z) (mo_A0 g q (s_X6_wears_13 v p0 p1) (upd ((s_X6_wears_13 v p0 p1).2 0) (f_X6_at p0 p1).toNatClampNeg (-6 : Int32)))).mp hD
      refine lv_aload_n hx hb dX6_wears_54 rfl (lv_at hl 0 rfl) ?_
      refine va_get (D := g.1) (ci := 6) (v := .ref (q 1)) (C := RX6) (T := TX6) (N := 12) hx hb hts (zin_X6_wears_X6) hown hK hP 0 rfl rfl 0 (by decide) (hts (.fieldLink RX6 7 "PegClerksModel" "all" "[I") (by decide +kernel)) (fun _ h9 => h9) rfl dX6_wears_55 ?_
      refine lv_bipush (v := (15 : Int32)) hx hb dX6_wears_58 (by decide) ?_
      refine lv_dup2_11 hx hb dX6_wears_60 rfl rfl ?_
      refine z_iald (f := ((s_X6_wears_53 v p0 p1).2 0)) (k := 15) hx hb hK hP 1 0 rfl rfl (zlit (15 : Int32) 136 (by decide +kernel)) (by decide +kernel) dX6_wears_61 ?_
      refine lv_iconst (v := (1 : Int32)) hx hb dX6_wears_62 (by decide) ?_
      refine lv_iadd hx hb dX6_wears_63 ?_
      refine z_iast (f := ((s_X6_wears_53 v p0 p1).2 0)) (k := 15) hx hb hK hP hD hS 1 0 rfl rfl (zlit (15 : Int32) 136 (by decide +kernel)) (by decide +kernel) dX6_wears_64 (fun H locs hP hD hS => ?_)
      have hP : va_P g.1 vwCl (mo g q (s_X6_wears_64 v p0 p1)) H := (congrArg (fun z => va_P g.1 vwCl z H) (mo_A0 g q (s_X6_wears_53 v p0 p1) (upd ((s_X6_wears_53 v p0 p1).2 0) 15 ((((s_X6_wears_53 v p0 p1).2 0) 15) + (1 : Int32))))).mp hP
      have hD : va_D A (mo g q (s_X6_wears_64 v p0 p1)) := (congrArg (fun z => va_D A z) (mo_A0 g q (s_X6_wears_53 v p0 p1) (upd ((s_X6_wears_53 v p0 p1).2 0) 15 ((((s_X6_wears_53 v p0 p1).2 0) 15) + (1 : Int32))))).mp hD
      have E : (f_X6_wears v p0 p1) = (s_X6_wears_64 v p0 p1) := (if_neg c_20).trans ((if_neg c_39).trans rfl)
      exact hret _ _ _ _ _ dX6_wears_65 (congrArg (fun z => (mo g q z)) E).symm hP hD hS
abbrev rm_X6_lies : Room := { frames := 1, cells := 0, slots := 0, locals := 20 }
set_option maxRecDepth 20000 in
theorem zin_X6_lies_X6 : ∀ w ∈ wsX60, w ∈ wsX6_lies := by decide +kernel
def s_X6_lies_10 (v : zCV) : zCV := zA v 0 (upd (v.2 0) 9 (((v.2 0) 9) + (1 : Int32)))
def s_X6_lies_94 (v : zCV) : zCV := zA (s_X6_lies_10 v) 0 (upd ((s_X6_lies_10 v).2 0) 12 ((((s_X6_lies_10 v).2 0) 12) + (1 : Int32)))
def s_X6_lies_96 (v : zCV) : zCV := (f_X6_newOne (s_X6_lies_94 v))
def s_X6_lies_80 (v : zCV) : zCV := zA (s_X6_lies_10 v) 0 (upd ((s_X6_lies_10 v).2 0) 11 ((((s_X6_lies_10 v).2 0) 11) + (1 : Int32)))
def s_X6_lies_96_2 (v : zCV) : zCV := (f_X6_newOne (s_X6_lies_80 v))
def s_X6_lies_49 (v : zCV) : zCV := zA (s_X6_lies_10 v) 0 (upd ((s_X6_lies_10 v).2 0) 13 ((((s_X6_lies_10 v).2 0) 13) + (1 : Int32)))
def s_X6_lies_96_3 (v : zCV) : zCV := (f_X6_newOne (s_X6_lies_49 v))
def f_X6_lies (v : zCV) : zCV := if (((s_X6_lies_10 v).2 0) 0) ≤ (((s_X6_lies_10 v).2 0) 9) then (if (((s_X6_lies_10 v).2 0) 8) = (1 : Int32) then ((s_X6_lies_96_3 v)) else (if (((s_X6_lies_10 v).2 0) 7) = (((s_X6_lies_10 v).2 0) 6) then ((s_X6_lies_96_2 v)) else ((s_X6_lies_96 v)))) else ((s_X6_lies_10 v))
set_option maxRecDepth 100000 in
set_option maxHeartbeats 4000000 in
theorem m_X6_lies (l : Launch) (g : zG) (q : Nat → Nat) (v : zCV) : ZV l yX6_lies wsX6_lies rm_X6_lies g (mo g q v) [.ref (q 0)] (mo g q (f_X6_lies v)) := by
  refine zopenV (cc := cX6_lies) (maxL := 1) (by decide +kernel) rfl (Nat.le_of_ble_eq_true rfl) ?_
  intro p e s m below meth c A Q ls hx hb hml hown hts hP hK hD hA hN hl hret
  have hS : va_S A s.heap s.heap [] := va_S.rf
  have hl : lv_has ls 1 [(0, .ref (q 0))] := hl
  have hown : s.vm.findClass RX6 = some m.cls := hown
  refine lv_aload_n hx hb dX6_lies_0 rfl (lv_at hl 0 rfl) ?_
  refine va_get (D := g.1) (ci := 6) (v := .ref (q 1)) (C := RX6) (T := TX6) (N := 12) hx hb hts (zin_X6_lies_X6) hown hK hP 0 rfl rfl 0 (by decide) (hts (.fieldLink RX6 7 "PegClerksModel" "all" "[I") (by decide +kernel)) (fun _ h9 => h9) rfl dX6_lies_1 ?_
  refine lv_bipush (v := (9 : Int32)) hx hb dX6_lies_4 (by decide) ?_
  refine lv_dup2_11 hx hb dX6_lies_6 rfl rfl ?_
  refine z_iald (f := (v.2 0)) (k := 9) hx hb hK hP 1 0 rfl rfl (zlit (9 : Int32) 136 (by decide +kernel)) (by decide +kernel) dX6_lies_7 ?_
  refine lv_iconst (v := (1 : Int32)) hx hb dX6_lies_8 (by decide) ?_
  refine lv_iadd hx hb dX6_lies_9 ?_
  refine z_iast (f := (v.2 0)) (k := 9) hx hb hK hP hD hS 1 0 rfl rfl (zlit (9 : Int32) 136 (by decide +kernel)) (by decide +kernel) dX6_lies_10 (fun H locs hP hD hS => ?_)
  have hP : va_P g.1 vwCl (mo g q (s_X6_lies_10 v)) H := (congrArg (fun z => va_P g.1 vwCl z H) (mo_A0 g q v (upd (v.2 0) 9 (((v.2 0) 9) + (1 : Int32))))).mp hP
  have hD : va_D A (mo g q (s_X6_lies_10 v)) := (congrArg (fun z => va_D A z) (mo_A0 g q v (upd (v.2 0) 9 (((v.2 0) 9) + (1 : Int32))))).mp hD
  refine lv_aload_n hx hb dX6_lies_11 rfl (lv_at hl 0 rfl) ?_
  refine va_get (D := g.1) (ci := 6) (v := .ref (q 1)) (C := RX6) (T := TX6) (N := 12) hx hb hts (zin_X6_lies_X6) hown hK hP 0 rfl rfl 0 (by decide) (hts (.fieldLink RX6 7 "PegClerksModel" "all" "[I") (by decide +kernel)) (fun _ h9 => h9) rfl dX6_lies_12 ?_
  refine lv_bipush (v := (9 : Int32)) hx hb dX6_lies_15 (by decide) ?_
  refine z_iald (f := ((s_X6_lies_10 v).2 0)) (k := 9) hx hb hK hP 1 0 rfl rfl (zlit (9 : Int32) 136 (by decide +kernel)) (by decide +kernel) dX6_lies_17 ?_
  refine lv_aload_n hx hb dX6_lies_18 rfl (lv_at hl 0 rfl) ?_
  refine va_get (D := g.1) (ci := 6) (v := .ref (q 1)) (C := RX6) (T := TX6) (N := 12) hx hb hts (zin_X6_lies_X6) hown hK hP 0 rfl rfl 0 (by decide) (hts (.fieldLink RX6 7 "PegClerksModel" "all" "[I") (by decide +kernel)) (fun _ h9 => h9) rfl dX6_lies_19 ?_
  refine lv_iconst (v := (0 : Int32)) hx hb dX6_lies_22 (by decide) ?_
  refine z_iald (f := ((s_X6_lies_10 v).2 0)) (k := 0) hx hb hK hP 1 0 rfl rfl (zlit (0 : Int32) 136 (by decide +kernel)) (by decide +kernel) dX6_lies_23 ?_
  refine lv_icmp_ge (tgt := 28) hx hb dX6_lies_24 (by decide) (fun c_24 => ?_) (fun c_24 => ?_)
  · refine lv_aload_n hx hb dX6_lies_28 rfl (lv_at hl 0 rfl) ?_
    refine va_get (D := g.1) (ci := 6) (v := .ref (q 1)) (C := RX6) (T := TX6) (N := 12) hx hb hts (zin_X6_lies_X6) hown hK hP 0 rfl rfl 0 (by decide) (hts (.fieldLink RX6 7 "PegClerksModel" "all" "[I") (by decide +kernel)) (fun _ h9 => h9) rfl dX6_lies_29 ?_
    refine lv_bipush (v := (8 : Int32)) hx hb dX6_lies_32 (by decide) ?_
    refine z_iald (f := ((s_X6_lies_10 v).2 0)) (k := 8) hx hb hK hP 1 0 rfl rfl (zlit (8 : Int32) 136 (by decide +kernel)) (by decide +kernel) dX6_lies_34 ?_
    refine lv_iconst (v := (1 : Int32)) hx hb dX6_lies_35 (by decide) ?_
    refine lv_icmp_ne (tgt := 53) hx hb dX6_lies_36 (by decide) (fun c_36 => ?_) (fun c_36 => ?_)
    · refine lv_aload_n hx hb dX6_lies_53 rfl (lv_at hl 0 rfl) ?_
      refine va_get (D := g.1) (ci := 6) (v := .ref (q 1)) (C := RX6) (T := TX6) (N := 12) hx hb hts (zin_X6_lies_X6) hown hK hP 0 rfl rfl 0 (by decide) (hts (.fieldLink RX6 7 "PegClerksModel" "all" "[I") (by decide +kernel)) (fun _ h9 => h9) rfl dX6_lies_54 ?_
      refine lv_bipush (v := (7 : Int32)) hx hb dX6_lies_57 (by decide) ?_
      refine z_iald (f := ((s_X6_lies_10 v).2 0)) (k := 7) hx hb hK hP 1 0 rfl rfl (zlit (7 : Int32) 136 (by decide +kernel)) (by decide +kernel) dX6_lies_59 ?_
      refine lv_aload_n hx hb dX6_lies_60 rfl (lv_at hl 0 rfl) ?_
      refine va_get (D := g.1) (ci := 6) (v := .ref (q 1)) (C := RX6) (T := TX6) (N := 12) hx hb hts (zin_X6_lies_X6) hown hK hP 0 rfl rfl 0 (by decide) (hts (.fieldLink RX6 7 "PegClerksModel" "all" "[I") (by decide +kernel)) (fun _ h9 => h9) rfl dX6_lies_61 ?_
      refine lv_bipush (v := (6 : Int32)) hx hb dX6_lies_64 (by decide) ?_
      refine z_iald (f := ((s_X6_lies_10 v).2 0)) (k := 6) hx hb hK hP 1 0 rfl rfl (zlit (6 : Int32) 136 (by decide +kernel)) (by decide +kernel) dX6_lies_66 ?_
      refine lv_icmp_ne (tgt := 84) hx hb dX6_lies_67 (by decide) (fun c_67 => ?_) (fun c_67 => ?_)
      · refine lv_aload_n hx hb dX6_lies_84 rfl (lv_at hl 0 rfl) ?_
        refine va_get (D := g.1) (ci := 6) (v := .ref (q 1)) (C := RX6) (T := TX6) (N := 12) hx hb hts (zin_X6_lies_X6) hown hK hP 0 rfl rfl 0 (by decide) (hts (.fieldLink RX6 7 "PegClerksModel" "all" "[I") (by decide +kernel)) (fun _ h9 => h9) rfl dX6_lies_85 ?_
        refine lv_bipush (v := (12 : Int32)) hx hb dX6_lies_88 (by decide) ?_
        refine lv_dup2_11 hx hb dX6_lies_90 rfl rfl ?_
        refine z_iald (f := ((s_X6_lies_10 v).2 0)) (k := 12) hx hb hK hP 1 0 rfl rfl (zlit (12 : Int32) 136 (by decide +kernel)) (by decide +kernel) dX6_lies_91 ?_
        refine lv_iconst (v := (1 : Int32)) hx hb dX6_lies_92 (by decide) ?_
        refine lv_iadd hx hb dX6_lies_93 ?_
        refine z_iast (f := ((s_X6_lies_10 v).2 0)) (k := 12) hx hb hK hP hD hS 1 0 rfl rfl (zlit (12 : Int32) 136 (by decide +kernel)) (by decide +kernel) dX6_lies_94 (fun H locs hP hD hS => ?_)
        have hP : va_P g.1 vwCl (mo g q (s_X6_lies_94 v)) H := (congrArg (fun z => va_P g.1 vwCl z H) (mo_A0 g q (s_X6_lies_10 v) (upd ((s_X6_lies_10 v).2 0) 12 ((((s_X6_lies_10 v).2 0) 12) + (1 : Int32))))).mp hP
        have hD : va_D A (mo g q (s_X6_lies_94 v)) := (congrArg (fun z => va_D A z) (mo_A0 g q (s_X6_lies_10 v) (upd ((s_X6_lies_10 v).2 0) 12 ((((s_X6_lies_10 v).2 0) 12) + (1 : Int32))))).mp hD
        refine lv_aload_n hx hb dX6_lies_95 rfl (lv_at hl 0 rfl) ?_
        refine zcVv (n := 0) (As := []) (rest := []) (Xr := []) (Xn := (mo g q (s_X6_lies_96 v))) (ci := 6) (C := RX6) (T := TX6) (N := 12) (q0 := 0) hx hb hml hown hts hN (m_X6_newOne l g q (s_X6_lies_94 v) ) gX6_lies_X6_newOne rfl (by decide +kernel) ⟨rfl, rfl⟩ ⟨Nat.le_of_ble_eq_true rfl, Nat.le_of_ble_eq_true rfl⟩ hK hP hD hS hA (zpn _) rfl rfl rfl hl.1 rfl (Nat.le_of_ble_eq_true rfl) dX6_lies_96 ⟨Nat.zero_le _, Nat.zero_le _⟩ (zpn' _) (fun H locs hP hD hS => ?_)
        have E : (f_X6_lies v) = (s_X6_lies_96 v) := (if_pos c_24).trans ((if_neg c_36).trans ((if_neg c_67).trans rfl))
        exact hret _ _ _ _ _ dX6_lies_99 (congrArg (fun z => (mo g q z)) E).symm hP hD hS
      · refine lv_aload_n hx hb dX6_lies_70 rfl (lv_at hl 0 rfl) ?_
        refine va_get (D := g.1) (ci := 6) (v := .ref (q 1)) (C := RX6) (T := TX6) (N := 12) hx hb hts (zin_X6_lies_X6) hown hK hP 0 rfl rfl 0 (by decide) (hts (.fieldLink RX6 7 "PegClerksModel" "all" "[I") (by decide +kernel)) (fun _ h9 => h9) rfl dX6_lies_71 ?_
        refine lv_bipush (v := (11 : Int32)) hx hb dX6_lies_74 (by decide) ?_
        refine lv_dup2_11 hx hb dX6_lies_76 rfl rfl ?_
        refine z_iald (f := ((s_X6_lies_10 v).2 0)) (k := 11) hx hb hK hP 1 0 rfl rfl (zlit (11 : Int32) 136 (by decide +kernel)) (by decide +kernel) dX6_lies_77 ?_
        refine lv_iconst (v := (1 : Int32)) hx hb dX6_lies_78 (by decide) ?_
        refine lv_iadd hx hb dX6_lies_79 ?_
        refine z_iast (f := ((s_X6_lies_10 v).2 0)) (k := 11) hx hb hK hP hD hS 1 0 rfl rfl (zlit (11 : Int32) 136 (by decide +kernel)) (by decide +kernel) dX6_lies_80 (fun H locs hP hD hS => ?_)
        have hP : va_P g.1 vwCl (mo g q (s_X6_lies_80 v)) H := (congrArg (fun z => va_P g.1 vwCl z H) (mo_A0 g q (s_X6_lies_10 v) (upd ((s_X6_lies_10 v).2 0) 11 ((((s_X6_lies_10 v).2 0) 11) + (1 : Int32))))).mp hP
        have hD : va_D A (mo g q (s_X6_lies_80 v)) := (congrArg (fun z => va_D A z) (mo_A0 g q (s_X6_lies_10 v) (upd ((s_X6_lies_10 v).2 0) 11 ((((s_X6_lies_10 v).2 0) 11) + (1 : Int32))))).mp hD
        refine lv_goto (tgt := 95) hx hb dX6_lies_81 (by decide) ?_
        refine lv_aload_n hx hb dX6_lies_95 rfl (lv_at hl 0 rfl) ?_
        refine zcVv (n := 0) (As := []) (rest := []) (Xr := []) (Xn := (mo g q (s_X6_lies_96_2 v))) (ci := 6) (C := RX6) (T := TX6) (N := 12) (q0 := 0) hx hb hml hown hts hN (m_X6_newOne l g q (s_X6_lies_80 v) ) gX6_lies_X6_newOne rfl (by decide +kernel) ⟨rfl, rfl⟩ ⟨Nat.le_of_ble_eq_true rfl, Nat.le_of_ble_eq_true rfl⟩ hK hP hD hS hA (zpn _) rfl rfl rfl hl.1 rfl (Nat.le_of_ble_eq_true rfl) dX6_lies_96 ⟨Nat.zero_le _, Nat.zero_le _⟩ (zpn' _) (fun H locs hP hD hS => ?_)
        have E : (f_X6_lies v) = (s_X6_lies_96_2 v) := (if_pos c_24).trans ((if_neg c_36).trans ((if_pos c_67).trans rfl))
        exact hret _ _ _ _ _ dX6_lies_99 (congrArg (fun z => (mo g q z)) E).symm hP hD hS
    · refine lv_aload_n hx hb dX6_lies_39 rfl (lv_at hl 0 rfl) ?_
      refine va_get (D := g.1) (ci := 6) (v := .ref (q 1)) (C := RX6) (T := TX6) (N := 12) hx hb hts (zin_X6_lies_X6) hown hK hP 0 rfl rfl 0 (by decide) (hts (.fieldLink RX6 7 "PegClerksModel" "all" "[I") (by decide +kernel)) (fun _ h9 => h9) rfl dX6_lies_40 ?_
      refine lv_bipush (v := (13 : Int32)) hx hb dX6_lies_43 (by decide) ?_
      refine lv_dup2_11 hx hb dX6_lies_45 rfl rfl ?_
      refine z_iald (f := ((s_X6_lies_10 v).2 0)) (k := 13) hx hb hK hP 1 0 rfl rfl (zlit (13 : Int32) 136 (by decide +kernel)) (by decide +kernel) dX6_lies_46 ?_
      refine lv_iconst (v := (1 : Int32)) hx hb dX6_lies_47 (by decide) ?_
      refine lv_iadd hx hb dX6_lies_48 ?_
      refine z_iast (f := ((s_X6_lies_10 v).2 0)) (k := 13) hx hb hK hP hD hS 1 0 rfl rfl (zlit (13 : Int32) 136 (by decide +kernel)) (by decide +kernel) dX6_lies_49 (fun H locs hP hD hS => ?_)
      have hP : va_P g.1 vwCl (mo g q (s_X6_lies_49 v)) H := (congrArg (fun z => va_P g.1 vwCl z H) (mo_A0 g q (s_X6_lies_10 v) (upd ((s_X6_lies_10 v).2 0) 13 ((((s_X6_lies_10 v).2 0) 13) + (1 : Int32))))).mp hP
      have hD : va_D A (mo g q (s_X6_lies_49 v)) := (congrArg (fun z => va_D A z) (mo_A0 g q (s_X6_lies_10 v) (upd ((s_X6_lies_10 v).2 0) 13 ((((s_X6_lies_10 v).2 0) 13) + (1 : Int32))))).mp hD
      refine lv_goto (tgt := 95) hx hb dX6_lies_50 (by decide) ?_
      refine lv_aload_n hx hb dX6_lies_95 rfl (lv_at hl 0 rfl) ?_
      refine zcVv (n := 0) (As := []) (rest := []) (Xr := []) (Xn := (mo g q (s_X6_lies_96_3 v))) (ci := 6) (C := RX6) (T := TX6) (N := 12) (q0 := 0) hx hb hml hown hts hN (m_X6_newOne l g q (s_X6_lies_49 v) ) gX6_lies_X6_newOne rfl (by decide +kernel) ⟨rfl, rfl⟩ ⟨Nat.le_of_ble_eq_true rfl, Nat.le_of_ble_eq_true rfl⟩ hK hP hD hS hA (zpn _) rfl rfl rfl hl.1 rfl (Nat.le_of_ble_eq_true rfl) dX6_lies_96 ⟨Nat.zero_le _, Nat.zero_le _⟩ (zpn' _) (fun H locs hP hD hS => ?_)
      have E : (f_X6_lies v) = (s_X6_lies_96_3 v) := (if_pos c_24).trans ((if_pos c_36).trans rfl)
      exact hret _ _ _ _ _ dX6_lies_99 (congrArg (fun z => (mo g q z)) E).symm hP hD hS
  · have E : (f_X6_lies v) = (s_X6_lies_10 v) := (if_neg c_24).trans rfl
    exact hret _ _ _ _ _ dX6_lies_27 (congrArg (fun z => (mo g q z)) E).symm hP hD hS
abbrev rm_X6_keeps : Room := { frames := 0, cells := 0, slots := 0, locals := 0 }
set_option maxRecDepth 20000 in
theorem zin_X6_keeps_X6 : ∀ w ∈ wsX60, w ∈ wsX6_keeps := by decide +kernel
def s_X6_keeps_20 (i2 : Nat) (w2_0 : zCV) : zCV := zA w2_0 1 (upd (w2_0.2 1) (nI i2).toNatClampNeg ((w2_0.2 0) (nI i2).toNatClampNeg))
def f_X6_keeps_L2  : Nat → Nat → zCV → zCV
  | 0, i2, w2_0 => w2_0
  | n2 + 1, i2, w2_0 => (f_X6_keeps_L2 n2 (i2 + 1) (s_X6_keeps_20 i2 w2_0))
def f_X6_keeps (v : zCV) : zCV := (f_X6_keeps_L2 136 0 v)
set_option maxRecDepth 100000 in
set_option maxHeartbeats 4000000 in
theorem m_X6_keeps (l : Launch) (g : zG) (q : Nat → Nat) (v : zCV) : ZV l yX6_keeps wsX6_keeps rm_X6_keeps g (mo g q v) [.ref (q 0)] (mo g q (f_X6_keeps v)) := by
  refine zopenV (cc := cX6_keeps) (maxL := 2) (by decide +kernel) rfl (Nat.le_of_ble_eq_true rfl) ?_
  intro p e s m below meth c A Q ls hx hb hml hown hts hP hK hD hA hN hl hret
  have hS : va_S A s.heap s.heap [] := va_S.rf
  have hl : lv_has ls 2 [(0, .ref (q 0))] := hl
  have hown : s.vm.findClass RX6 = some m.cls := hown
  refine lv_iconst (v := (0 : Int32)) hx hb dX6_keeps_0 (by decide) ?_
  refine lv_istore_n (lv' := [(1, .int (0 : Int32)), (0, .ref (q 0))]) hx hb dX6_keeps_1 rfl hl (by decide) rfl (fun ls hl => ?_)
  have L2 : ∀ (n2 : Nat) (i2 : Nat), i2 + n2 = 136 → ∀ (w2_0 : zCV) (H : Heap) (locs : List Loc) (ls : Array Slot), va_P g.1 vwCl (mo g q w2_0) H → va_D A (mo g q w2_0) → va_S A s.heap H locs → lv_has ls 2 [(1, .int (nI i2)), (0, .ref (q 0))] → (∀ (H : Heap) (locs : List Loc) (ls : Array Slot), va_P g.1 vwCl (mo g q (f_X6_keeps_L2 n2 i2 w2_0)) H → va_D A (mo g q (f_X6_keeps_L2 n2 i2 w2_0)) → va_S A s.heap H locs → lv_has ls 2 [(0, .ref (q 0))] → W p l e rm_X6_keeps s m ([.ref (q 0)] : List Value).toArray below meth c H locs 0 0 Q (F0 m 27 ls [])) → W p l e rm_X6_keeps s m ([.ref (q 0)] : List Value).toArray below meth c H locs 0 0 Q (F0 m 2 ls []) := by
    intro n2
    induction n2 with
    | zero =>
      intro i2 hin2 w2_0 H locs ls hP hD hS hl kx
      refine lv_iload_n hx hb dX6_keeps_2 rfl (lv_at hl 0 rfl) ?_
      refine lv_sipush (v := (136 : Int32)) hx hb dX6_keeps_3 (by decide) ?_
      refine lv_icmp_ge (tgt := 27) hx hb dX6_keeps_6 (by decide) (fun c_6 => ?_) (fun c_6 => ?_)
      rotate_left
      · exact absurd (by rw [show i2 = 136 by omega]; decide) c_6
      have E : (f_X6_keeps_L2 0 i2 w2_0) = w2_0 := rfl
      rw [E] at kx
      exact kx _ _ _ hP hD hS (lv_sub hl [1] rfl)
    | succ n2 ih2 =>
      intro i2 hin2 w2_0 H locs ls hP hD hS hl kx
      refine lv_iload_n hx hb dX6_keeps_2 rfl (lv_at hl 0 rfl) ?_
      refine lv_sipush (v := (136 : Int32)) hx hb dX6_keeps_3 (by decide) ?_
      refine lv_icmp_ge (tgt := 27) hx hb dX6_keeps_6 (by decide) (fun c_6 => ?_) (fun c_6 => ?_)
      · exact absurd c_6 (nI_ge (a := i2) (b := 136) (by omega) (by omega))
      refine lv_aload_n hx hb dX6_keeps_9 rfl (lv_at hl 1 rfl) ?_
      refine va_get (D := g.1) (ci := 6) (v := .ref (q 2)) (C := RX6) (T := TX6) (N := 12) hx hb hts (zin_X6_keeps_X6) hown hK hP 0 rfl rfl 1 (by decide) (hts (.fieldLink RX6 13 "PegClerksModel" "kept" "[I") (by decide +kernel)) (fun _ h9 => h9) rfl dX6_keeps_10 ?_
      refine lv_iload_n hx hb dX6_keeps_13 rfl (lv_at hl 0 rfl) ?_
      refine lv_aload_n hx hb dX6_keeps_14 rfl (lv_at hl 1 rfl) ?_
      refine va_get (D := g.1) (ci := 6) (v := .ref (q 1)) (C := RX6) (T := TX6) (N := 12) hx hb hts (zin_X6_keeps_X6) hown hK hP 0 rfl rfl 0 (by decide) (hts (.fieldLink RX6 7 "PegClerksModel" "all" "[I") (by decide +kernel)) (fun _ h9 => h9) rfl dX6_keeps_15 ?_
      refine lv_iload_n hx hb dX6_keeps_18 rfl (lv_at hl 0 rfl) ?_
      refine z_iald (f := (w2_0.2 0)) (k := (nI i2).toNatClampNeg) hx hb hK hP 1 0 rfl rfl (vp_in_nI (by omega) (by omega)) rfl dX6_keeps_19 ?_
      refine z_iast (f := (w2_0.2 1)) (k := (nI i2).toNatClampNeg) hx hb hK hP hD hS 2 0 rfl rfl (vp_in_nI (by omega) (by omega)) rfl dX6_keeps_20 (fun H locs hP hD hS => ?_)
      have hP : va_P g.1 vwCl (mo g q (s_X6_keeps_20 i2 w2_0)) H := (congrArg (fun z => va_P g.1 vwCl z H) (mo_A1 g q w2_0 (upd (w2_0.2 1) (nI i2).toNatClampNeg ((w2_0.2 0) (nI i2).toNatClampNeg)))).mp hP
      have hD : va_D A (mo g q (s_X6_keeps_20 i2 w2_0)) := (congrArg (fun z => va_D A z) (mo_A1 g q w2_0 (upd (w2_0.2 1) (nI i2).toNatClampNeg ((w2_0.2 0) (nI i2).toNatClampNeg)))).mp hD
      refine lv_iinc (v := (nI (i2 + 1))) (lv' := [(1, .int (nI (i2 + 1))), (0, .ref (q 0))]) hx hb dX6_keeps_21 hl (k := 0) rfl (nI_1 i2) (by decide) rfl (fun ls hl => ?_)
      refine lv_goto (tgt := 2) hx hb dX6_keeps_24 (by decide) ?_
      have E : (f_X6_keeps_L2 (n2 + 1) i2 w2_0) = (f_X6_keeps_L2 n2 (i2 + 1) (s_X6_keeps_20 i2 w2_0)) := rfl
      rw [E] at kx
      exact ih2 (i2 + 1) (by omega) (s_X6_keeps_20 i2 w2_0) _ _ _  hP hD hS (lv_sub hl [0, 1] rfl) kx
  refine L2 136 0 (by omega) v _ _ _  hP hD hS (lv_sub hl [0, 1] rfl) (fun H locs ls hP hD hS hl => ?_)
  have E : (f_X6_keeps v) = (f_X6_keeps_L2 136 0 v) := rfl
  exact hret _ _ _ _ _ dX6_keeps_27 (congrArg (fun z => (mo g q z)) E).symm hP hD hS
abbrev rm_X6_comesBack : Room := { frames := 0, cells := 0, slots := 0, locals := 0 }
set_option maxRecDepth 20000 in
theorem zin_X6_comesBack_X6 : ∀ w ∈ wsX60, w ∈ wsX6_comesBack := by decide +kernel
def s_X6_comesBack_20 (i2 : Nat) (w2_0 : zCV) : zCV := zA w2_0 0 (upd (w2_0.2 0) (nI i2).toNatClampNeg ((w2_0.2 1) (nI i2).toNatClampNeg))
def f_X6_comesBack_L2  : Nat → Nat → zCV → zCV
  | 0, i2, w2_0 => w2_0
  | n2 + 1, i2, w2_0 => (f_X6_comesBack_L2 n2 (i2 + 1) (s_X6_comesBack_20 i2 w2_0))
def f_X6_comesBack (v : zCV) : zCV := (f_X6_comesBack_L2 136 0 v)
set_option maxRecDepth 100000 in
set_option maxHeartbeats 4000000 in
theorem m_X6_comesBack (l : Launch) (g : zG) (q : Nat → Nat) (v : zCV) : ZV l yX6_comesBack wsX6_comesBack rm_X6_comesBack g (mo g q v) [.ref (q 0)] (mo g q (f_X6_comesBack v)) := by
  refine zopenV (cc := cX6_comesBack) (maxL := 2) (by decide +kernel) rfl (Nat.le_of_ble_eq_true rfl) ?_
  intro p e s m below meth c A Q ls hx hb hml hown hts hP hK hD hA hN hl hret
  have hS : va_S A s.heap s.heap [] := va_S.rf
  have hl : lv_has ls 2 [(0, .ref (q 0))] := hl
  have hown : s.vm.findClass RX6 = some m.cls := hown
  refine lv_iconst (v := (0 : Int32)) hx hb dX6_comesBack_0 (by decide) ?_
  refine lv_istore_n (lv' := [(1, .int (0 : Int32)), (0, .ref (q 0))]) hx hb dX6_comesBack_1 rfl hl (by decide) rfl (fun ls hl => ?_)
  have L2 : ∀ (n2 : Nat) (i2 : Nat), i2 + n2 = 136 → ∀ (w2_0 : zCV) (H : Heap) (locs : List Loc) (ls : Array Slot), va_P g.1 vwCl (mo g q w2_0) H → va_D A (mo g q w2_0) → va_S A s.heap H locs → lv_has ls 2 [(1, .int (nI i2)), (0, .ref (q 0))] → (∀ (H : Heap) (locs : List Loc) (ls : Array Slot), va_P g.1 vwCl (mo g q (f_X6_comesBack_L2 n2 i2 w2_0)) H → va_D A (mo g q (f_X6_comesBack_L2 n2 i2 w2_0)) → va_S A s.heap H locs → lv_has ls 2 [(0, .ref (q 0))] → W p l e rm_X6_comesBack s m ([.ref (q 0)] : List Value).toArray below meth c H locs 0 0 Q (F0 m 27 ls [])) → W p l e rm_X6_comesBack s m ([.ref (q 0)] : List Value).toArray below meth c H locs 0 0 Q (F0 m 2 ls []) := by
    intro n2
    induction n2 with
    | zero =>
      intro i2 hin2 w2_0 H locs ls hP hD hS hl kx
      refine lv_iload_n hx hb dX6_comesBack_2 rfl (lv_at hl 0 rfl) ?_
      refine lv_sipush (v := (136 : Int32)) hx hb dX6_comesBack_3 (by decide) ?_
      refine lv_icmp_ge (tgt := 27) hx hb dX6_comesBack_6 (by decide) (fun c_6 => ?_) (fun c_6 => ?_)
      rotate_left
      · exact absurd (by rw [show i2 = 136 by omega]; decide) c_6
      have E : (f_X6_comesBack_L2 0 i2 w2_0) = w2_0 := rfl
      rw [E] at kx
      exact kx _ _ _ hP hD hS (lv_sub hl [1] rfl)
    | succ n2 ih2 =>
      intro i2 hin2 w2_0 H locs ls hP hD hS hl kx
      refine lv_iload_n hx hb dX6_comesBack_2 rfl (lv_at hl 0 rfl) ?_
      refine lv_sipush (v := (136 : Int32)) hx hb dX6_comesBack_3 (by decide) ?_
      refine lv_icmp_ge (tgt := 27) hx hb dX6_comesBack_6 (by decide) (fun c_6 => ?_) (fun c_6 => ?_)
      · exact absurd c_6 (nI_ge (a := i2) (b := 136) (by omega) (by omega))
      refine lv_aload_n hx hb dX6_comesBack_9 rfl (lv_at hl 1 rfl) ?_
      refine va_get (D := g.1) (ci := 6) (v := .ref (q 1)) (C := RX6) (T := TX6) (N := 12) hx hb hts (zin_X6_comesBack_X6) hown hK hP 0 rfl rfl 0 (by decide) (hts (.fieldLink RX6 7 "PegClerksModel" "all" "[I") (by decide +kernel)) (fun _ h9 => h9) rfl dX6_comesBack_10 ?_
      refine lv_iload_n hx hb dX6_comesBack_13 rfl (lv_at hl 0 rfl) ?_
      refine lv_aload_n hx hb dX6_comesBack_14 rfl (lv_at hl 1 rfl) ?_
      refine va_get (D := g.1) (ci := 6) (v := .ref (q 2)) (C := RX6) (T := TX6) (N := 12) hx hb hts (zin_X6_comesBack_X6) hown hK hP 0 rfl rfl 1 (by decide) (hts (.fieldLink RX6 13 "PegClerksModel" "kept" "[I") (by decide +kernel)) (fun _ h9 => h9) rfl dX6_comesBack_15 ?_
      refine lv_iload_n hx hb dX6_comesBack_18 rfl (lv_at hl 0 rfl) ?_
      refine z_iald (f := (w2_0.2 1)) (k := (nI i2).toNatClampNeg) hx hb hK hP 2 0 rfl rfl (vp_in_nI (by omega) (by omega)) rfl dX6_comesBack_19 ?_
      refine z_iast (f := (w2_0.2 0)) (k := (nI i2).toNatClampNeg) hx hb hK hP hD hS 1 0 rfl rfl (vp_in_nI (by omega) (by omega)) rfl dX6_comesBack_20 (fun H locs hP hD hS => ?_)
      have hP : va_P g.1 vwCl (mo g q (s_X6_comesBack_20 i2 w2_0)) H := (congrArg (fun z => va_P g.1 vwCl z H) (mo_A0 g q w2_0 (upd (w2_0.2 0) (nI i2).toNatClampNeg ((w2_0.2 1) (nI i2).toNatClampNeg)))).mp hP
      have hD : va_D A (mo g q (s_X6_comesBack_20 i2 w2_0)) := (congrArg (fun z => va_D A z) (mo_A0 g q w2_0 (upd (w2_0.2 0) (nI i2).toNatClampNeg ((w2_0.2 1) (nI i2).toNatClampNeg)))).mp hD
      refine lv_iinc (v := (nI (i2 + 1))) (lv' := [(1, .int (nI (i2 + 1))), (0, .ref (q 0))]) hx hb dX6_comesBack_21 hl (k := 0) rfl (nI_1 i2) (by decide) rfl (fun ls hl => ?_)
      refine lv_goto (tgt := 2) hx hb dX6_comesBack_24 (by decide) ?_
      have E : (f_X6_comesBack_L2 (n2 + 1) i2 w2_0) = (f_X6_comesBack_L2 n2 (i2 + 1) (s_X6_comesBack_20 i2 w2_0)) := rfl
      rw [E] at kx
      exact ih2 (i2 + 1) (by omega) (s_X6_comesBack_20 i2 w2_0) _ _ _  hP hD hS (lv_sub hl [0, 1] rfl) kx
  refine L2 136 0 (by omega) v _ _ _  hP hD hS (lv_sub hl [0, 1] rfl) (fun H locs ls hP hD hS hl => ?_)
  have E : (f_X6_comesBack v) = (f_X6_comesBack_L2 136 0 v) := rfl
  exact hret _ _ _ _ _ dX6_comesBack_27 (congrArg (fun z => (mo g q z)) E).symm hP hD hS
abbrev rm_X6_steps : Room := { frames := 4, cells := 0, slots := 0, locals := 87 }
set_option maxRecDepth 20000 in
theorem zin_X6_steps_X6 : ∀ w ∈ wsX60, w ∈ wsX6_steps := by decide +kernel
def r_X6_steps_21 (v : zCV) : Int32 := (f_X6_wouldJam v ((v.2 0) 4))
def r_X6_steps_58 (v : zCV) (i49 : Nat) (w49_0 : zCV) : Int32 := (f_X6_hasPeg w49_0 ((v.2 0) 4) (nI i49))
def s_X6_steps_66 (i49 : Nat) (w49_0 : zCV) : zCV := (f_X6_falls w49_0 (nI i49))
def s_X6_steps_72 (v : zCV) (i49 : Nat) (w49_0 : zCV) : zCV := (f_X6_wears (s_X6_steps_66 i49 w49_0) ((v.2 0) 4) (nI i49))
def f_X6_steps_L49 (v : zCV) : Nat → Nat → zCV → zCV
  | 0, i49, w49_0 => w49_0
  | n49 + 1, i49, w49_0 => if (r_X6_steps_58 v i49 w49_0) = (0 : Int32) then ((f_X6_steps_L49 v n49 (i49 + 1) w49_0)) else ((f_X6_steps_L49 v n49 (i49 + 1) (s_X6_steps_72 v i49 w49_0)))
def s_X6_steps_92 (v : zCV) : zCV := zA (f_X6_steps_L49 v 6 0 v) 0 (upd ((f_X6_steps_L49 v 6 0 v).2 0) 4 ((((v.2 0) 4) + (1 : Int32)) - (((((v.2 0) 4) + (1 : Int32)) / (16 : Int32)) * (16 : Int32))))
def s_X6_steps_103 (v : zCV) : zCV := zA (s_X6_steps_92 v) 0 (upd ((s_X6_steps_92 v).2 0) 10 ((((s_X6_steps_92 v).2 0) 10) + (1 : Int32)))
def s_X6_steps_105 (v : zCV) : zCV := (f_X6_lies (s_X6_steps_103 v))
def s_X6_steps_33 (v : zCV) : zCV := zA v 0 (upd (v.2 0) 5 (1 : Int32))
def s_X6_steps_44 (v : zCV) : zCV := zA (s_X6_steps_33 v) 0 (upd ((s_X6_steps_33 v).2 0) 14 ((((s_X6_steps_33 v).2 0) 14) + (1 : Int32)))
def f_X6_steps (v : zCV) : Int32 × zCV := if ((v.2 0) 5) = (1 : Int32) then (((0 : Int32), v)) else (if (r_X6_steps_21 v) = (0 : Int32) then (((1 : Int32), (s_X6_steps_105 v))) else (((0 : Int32), (s_X6_steps_44 v))))
set_option maxRecDepth 100000 in
set_option maxHeartbeats 4000000 in
theorem m_X6_steps (l : Launch) (g : zG) (q : Nat → Nat) (v : zCV) (hat : vp_in (v.2 0 4) 16) : ZI l yX6_steps wsX6_steps rm_X6_steps g (mo g q v) [.ref (q 0)] (f_X6_steps v).1 (mo g q (f_X6_steps v).2) := by
  refine zopenI (cc := cX6_steps) (maxL := 3) (ret := .boolean) (by decide +kernel) rfl (Nat.le_of_ble_eq_true rfl) ?_
  intro p e s m below meth c A Q ls hx hb hml hown hts hP hK hD hA hN hl hret
  have hS : va_S A s.heap s.heap [] := va_S.rf
  have hl : lv_has ls 3 [(0, .ref (q 0))] := hl
  have hown : s.vm.findClass RX6 = some m.cls := hown
  refine lv_aload_n hx hb dX6_steps_0 rfl (lv_at hl 0 rfl) ?_
  refine va_get (D := g.1) (ci := 6) (v := .ref (q 1)) (C := RX6) (T := TX6) (N := 12) hx hb hts (zin_X6_steps_X6) hown hK hP 0 rfl rfl 0 (by decide) (hts (.fieldLink RX6 7 "PegClerksModel" "all" "[I") (by decide +kernel)) (fun _ h9 => h9) rfl dX6_steps_1 ?_
  refine lv_iconst (v := (5 : Int32)) hx hb dX6_steps_4 (by decide) ?_
  refine z_iald (f := (v.2 0)) (k := 5) hx hb hK hP 1 0 rfl rfl (zlit (5 : Int32) 136 (by decide +kernel)) (by decide +kernel) dX6_steps_5 ?_
  refine lv_iconst (v := (1 : Int32)) hx hb dX6_steps_6 (by decide) ?_
  refine lv_icmp_ne (tgt := 12) hx hb dX6_steps_7 (by decide) (fun c_7 => ?_) (fun c_7 => ?_)
  · refine lv_aload_n hx hb dX6_steps_12 rfl (lv_at hl 0 rfl) ?_
    refine va_get (D := g.1) (ci := 6) (v := .ref (q 1)) (C := RX6) (T := TX6) (N := 12) hx hb hts (zin_X6_steps_X6) hown hK hP 0 rfl rfl 0 (by decide) (hts (.fieldLink RX6 7 "PegClerksModel" "all" "[I") (by decide +kernel)) (fun _ h9 => h9) rfl dX6_steps_13 ?_
    refine lv_iconst (v := (4 : Int32)) hx hb dX6_steps_16 (by decide) ?_
    refine z_iald (f := (v.2 0)) (k := 4) hx hb hK hP 1 0 rfl rfl (zlit (4 : Int32) 136 (by decide +kernel)) (by decide +kernel) dX6_steps_17 ?_
    refine lv_istore_n (lv' := [(1, .int ((v.2 0) 4)), (0, .ref (q 0))]) hx hb dX6_steps_18 rfl hl (by decide) rfl (fun ls hl => ?_)
    refine lv_aload_n hx hb dX6_steps_19 rfl (lv_at hl 1 rfl) ?_
    refine lv_iload_n hx hb dX6_steps_20 rfl (lv_at hl 0 rfl) ?_
    refine zcVi (n := 1) (As := [.int ((v.2 0) 4)]) (rest := []) (Xr := []) (Xn := (mo g q v)) (ci := 6) (C := RX6) (T := TX6) (N := 12) (q0 := 0) hx hb hml hown hts hN (m_X6_wouldJam l g q v ((v.2 0) 4) hat) gX6_steps_X6_wouldJam rfl (by decide +kernel) ⟨rfl, rfl⟩ ⟨Nat.le_of_ble_eq_true rfl, Nat.le_of_ble_eq_true rfl⟩ hK hP hD hS hA (zpn _) rfl rfl rfl hl.1 rfl (Nat.le_of_ble_eq_true rfl) dX6_steps_21 ⟨Nat.zero_le _, Nat.zero_le _⟩ (zpn' _) (fun H locs hP hD hS => ?_)
    refine lv_if_eq (tgt := 47) hx hb dX6_steps_24 (by decide) (fun c_24 => ?_) (fun c_24 => ?_)
    · refine lv_iconst (v := (0 : Int32)) hx hb dX6_steps_47 (by decide) ?_
      refine lv_istore_n (lv' := [(2, .int (0 : Int32)), (1, .int ((v.2 0) 4)), (0, .ref (q 0))]) hx hb dX6_steps_48 rfl hl (by decide) rfl (fun ls hl => ?_)
      have L49 : ∀ (n49 : Nat) (i49 : Nat), i49 + n49 = 6 → ∀ (w49_0 : zCV) (H : Heap) (locs : List Loc) (ls : Array Slot), va_P g.1 vwCl (mo g q w49_0) H → va_D A (mo g q w49_0) → va_S A s.heap H locs → lv_has ls 3 [(2, .int (nI i49)), (1, .int ((v.2 0) 4)), (0, .ref (q 0))] → (∀ (H : Heap) (locs : List Loc) (ls : Array Slot), va_P g.1 vwCl (mo g q (f_X6_steps_L49 v n49 i49 w49_0)) H → va_D A (mo g q (f_X6_steps_L49 v n49 i49 w49_0)) → va_S A s.heap H locs → lv_has ls 3 [(1, .int ((v.2 0) 4)), (0, .ref (q 0))] → W p l e rm_X6_steps s m ([.ref (q 0)] : List Value).toArray below meth c H locs 0 0 Q (F0 m 81 ls [])) → W p l e rm_X6_steps s m ([.ref (q 0)] : List Value).toArray below meth c H locs 0 0 Q (F0 m 49 ls []) := by
        intro n49
        induction n49 with
        | zero =>
          intro i49 hin49 w49_0 H locs ls hP hD hS hl kx
          refine lv_iload_n hx hb dX6_steps_49 rfl (lv_at hl 0 rfl) ?_
          refine lv_bipush (v := (6 : Int32)) hx hb dX6_steps_50 (by decide) ?_
          refine lv_icmp_ge (tgt := 81) hx hb dX6_steps_52 (by decide) (fun c_52 => ?_) (fun c_52 => ?_)
          rotate_left
          · exact absurd (by rw [show i49 = 6 by omega]; decide) c_52
          have E : (f_X6_steps_L49 v 0 i49 w49_0) = w49_0 := rfl
          rw [E] at kx
          exact kx _ _ _ hP hD hS (lv_sub hl [1, 2] rfl)
        | succ n49 ih49 =>
          intro i49 hin49 w49_0 H locs ls hP hD hS hl kx
          refine lv_iload_n hx hb dX6_steps_49 rfl (lv_at hl 0 rfl) ?_
          refine lv_bipush (v := (6 : Int32)) hx hb dX6_steps_50 (by decide) ?_
          refine lv_icmp_ge (tgt := 81) hx hb dX6_steps_52 (by decide) (fun c_52 => ?_) (fun c_52 => ?_)
          · exact absurd c_52 (nI_ge (a := i49) (b := 6) (by omega) (by omega))
          refine lv_aload_n hx hb dX6_steps_55 rfl (lv_at hl 2 rfl) ?_
          refine lv_iload_n hx hb dX6_steps_56 rfl (lv_at hl 1 rfl) ?_
          refine lv_iload_n hx hb dX6_steps_57 rfl (lv_at hl 0 rfl) ?_
          refine zcVi (n := 2) (As := [.int ((v.2 0) 4), .int (nI i49)]) (rest := []) (Xr := []) (Xn := (mo g q w49_0)) (ci := 6) (C := RX6) (T := TX6) (N := 12) (q0 := 0) hx hb hml hown hts hN (m_X6_hasPeg l g q w49_0 ((v.2 0) 4) (nI i49) hat (vp_in_nI (by omega) (by omega))) gX6_steps_X6_hasPeg rfl (by decide +kernel) ⟨rfl, rfl⟩ ⟨Nat.le_of_ble_eq_true rfl, Nat.le_of_ble_eq_true rfl⟩ hK hP hD hS hA (zpn _) rfl rfl rfl hl.1 rfl (Nat.le_of_ble_eq_true rfl) dX6_steps_58 ⟨Nat.zero_le _, Nat.zero_le _⟩ (zpn' _) (fun H locs hP hD hS => ?_)
          refine lv_if_eq (tgt := 75) hx hb dX6_steps_61 (by decide) (fun c_61 => ?_) (fun c_61 => ?_)
          · refine lv_iinc (v := (nI (i49 + 1))) (lv' := [(2, .int (nI (i49 + 1))), (1, .int ((v.2 0) 4)), (0, .ref (q 0))]) hx hb dX6_steps_75 hl (k := 0) rfl (nI_1 i49) (by decide) rfl (fun ls hl => ?_)
            refine lv_goto (tgt := 49) hx hb dX6_steps_78 (by decide) ?_
            have E : (f_X6_steps_L49 v (n49 + 1) i49 w49_0) = (f_X6_steps_L49 v n49 (i49 + 1) w49_0) := (if_pos c_61).trans rfl
            rw [E] at kx
            exact ih49 (i49 + 1) (by omega) w49_0 _ _ _  hP hD hS (lv_sub hl [0, 1, 2] rfl) kx
          · refine lv_aload_n hx hb dX6_steps_64 rfl (lv_at hl 2 rfl) ?_
            refine lv_iload_n hx hb dX6_steps_65 rfl (lv_at hl 0 rfl) ?_
            refine zcVv (n := 1) (As := [.int (nI i49)]) (rest := []) (Xr := []) (Xn := (mo g q (s_X6_steps_66 i49 w49_0))) (ci := 6) (C := RX6) (T := TX6) (N := 12) (q0 := 0) hx hb hml hown hts hN (m_X6_falls l g q w49_0 (nI i49) (vp_in_nI (by omega) (by omega))) gX6_steps_X6_falls rfl (by decide +kernel) ⟨rfl, rfl⟩ ⟨Nat.le_of_ble_eq_true rfl, Nat.le_of_ble_eq_true rfl⟩ hK hP hD hS hA (zpn _) rfl rfl rfl hl.1 rfl (Nat.le_of_ble_eq_true rfl) dX6_steps_66 ⟨Nat.zero_le _, Nat.zero_le _⟩ (zpn' _) (fun H locs hP hD hS => ?_)
            refine lv_aload_n hx hb dX6_steps_69 rfl (lv_at hl 2 rfl) ?_
            refine lv_iload_n hx hb dX6_steps_70 rfl (lv_at hl 1 rfl) ?_
            refine lv_iload_n hx hb dX6_steps_71 rfl (lv_at hl 0 rfl) ?_
            refine zcVv (n := 2) (As := [.int ((v.2 0) 4), .int (nI i49)]) (rest := []) (Xr := []) (Xn := (mo g q (s_X6_steps_72 v i49 w49_0))) (ci := 6) (C := RX6) (T := TX6) (N := 12) (q0 := 0) hx hb hml hown hts hN (m_X6_wears l g q (s_X6_steps_66 i49 w49_0) ((v.2 0) 4) (nI i49) hat (vp_in_nI (by omega) (by omega))) gX6_steps_X6_wears rfl (by decide +kernel) ⟨rfl, rfl⟩ ⟨Nat.le_of_ble_eq_true rfl, Nat.le_of_ble_eq_true rfl⟩ hK hP hD hS hA (zpn _) rfl rfl rfl hl.1 rfl (Nat.le_of_ble_eq_true rfl) dX6_steps_72 ⟨Nat.zero_le _, Nat.zero_le _⟩ (zpn' _) (fun H locs hP hD hS => ?_)
            refine lv_iinc (v := (nI (i49 + 1))) (lv' := [(2, .int (nI (i49 + 1))), (1, .int ((v.2 0) 4)), (0, .ref (q 0))]) hx hb dX6_steps_75 hl (k := 0) rfl (nI_1 i49) (by decide) rfl (fun ls hl => ?_)
            refine lv_goto (tgt := 49) hx hb dX6_steps_78 (by decide) ?_
            have E : (f_X6_steps_L49 v (n49 + 1) i49 w49_0) = (f_X6_steps_L49 v n49 (i49 + 1) (s_X6_steps_72 v i49 w49_0)) := (if_neg c_61).trans rfl
            rw [E] at kx
            exact ih49 (i49 + 1) (by omega) (s_X6_steps_72 v i49 w49_0) _ _ _  hP hD hS (lv_sub hl [0, 1, 2] rfl) kx
      refine L49 6 0 (by omega) v _ _ _  hP hD hS (lv_sub hl [0, 1, 2] rfl) (fun H locs ls hP hD hS hl => ?_)
      refine lv_aload_n hx hb dX6_steps_81 rfl (lv_at hl 1 rfl) ?_
      refine va_get (D := g.1) (ci := 6) (v := .ref (q 1)) (C := RX6) (T := TX6) (N := 12) hx hb hts (zin_X6_steps_X6) hown hK hP 0 rfl rfl 0 (by decide) (hts (.fieldLink RX6 7 "PegClerksModel" "all" "[I") (by decide +kernel)) (fun _ h9 => h9) rfl dX6_steps_82 ?_
      refine lv_iconst (v := (4 : Int32)) hx hb dX6_steps_85 (by decide) ?_
      refine lv_iload_n hx hb dX6_steps_86 rfl (lv_at hl 0 rfl) ?_
      refine lv_iconst (v := (1 : Int32)) hx hb dX6_steps_87 (by decide) ?_
      refine lv_iadd hx hb dX6_steps_88 ?_
      refine lv_bipush (v := (16 : Int32)) hx hb dX6_steps_89 (by decide) ?_
      refine lv_irem hx hb dX6_steps_91 (by decide) ?_
      refine z_iast (f := ((f_X6_steps_L49 v 6 0 v).2 0)) (k := 4) hx hb hK hP hD hS 1 0 rfl rfl (zlit (4 : Int32) 136 (by decide +kernel)) (by decide +kernel) dX6_steps_92 (fun H locs hP hD hS => ?_)
      have hP : va_P g.1 vwCl (mo g q (s_X6_steps_92 v)) H := (congrArg (fun z => va_P g.1 vwCl z H) (mo_A0 g q (f_X6_steps_L49 v 6 0 v) (upd ((f_X6_steps_L49 v 6 0 v).2 0) 4 ((((v.2 0) 4) + (1 : Int32)) - (((((v.2 0) 4) + (1 : Int32)) / (16 : Int32)) * (16 : Int32)))))).mp hP
      have hD : va_D A (mo g q (s_X6_steps_92 v)) := (congrArg (fun z => va_D A z) (mo_A0 g q (f_X6_steps_L49 v 6 0 v) (upd ((f_X6_steps_L49 v 6 0 v).2 0) 4 ((((v.2 0) 4) + (1 : Int32)) - (((((v.2 0) 4) + (1 : Int32)) / (16 : Int32)) * (16 : Int32)))))).mp hD
      refine lv_aload_n hx hb dX6_steps_93 rfl (lv_at hl 1 rfl) ?_
      refine va_get (D := g.1) (ci := 6) (v := .ref (q 1)) (C := RX6) (T := TX6) (N := 12) hx hb hts (zin_X6_steps_X6) hown hK hP 0 rfl rfl 0 (by decide) (hts (.fieldLink RX6 7 "PegClerksModel" "all" "[I") (by decide +kernel)) (fun _ h9 => h9) rfl dX6_steps_94 ?_
      refine lv_bipush (v := (10 : Int32)) hx hb dX6_steps_97 (by decide) ?_
      refine lv_dup2_11 hx hb dX6_steps_99 rfl rfl ?_
      refine z_iald (f := ((s_X6_steps_92 v).2 0)) (k := 10) hx hb hK hP 1 0 rfl rfl (zlit (10 : Int32) 136 (by decide +kernel)) (by decide +kernel) dX6_steps_100 ?_
      refine lv_iconst (v := (1 : Int32)) hx hb dX6_steps_101 (by decide) ?_
      refine lv_iadd hx hb dX6_steps_102 ?_
      refine z_iast (f := ((s_X6_steps_92 v).2 0)) (k := 10) hx hb hK hP hD hS 1 0 rfl rfl (zlit (10 : Int32) 136 (by decide +kernel)) (by decide +kernel) dX6_steps_103 (fun H locs hP hD hS => ?_)
      have hP : va_P g.1 vwCl (mo g q (s_X6_steps_103 v)) H := (congrArg (fun z => va_P g.1 vwCl z H) (mo_A0 g q (s_X6_steps_92 v) (upd ((s_X6_steps_92 v).2 0) 10 ((((s_X6_steps_92 v).2 0) 10) + (1 : Int32))))).mp hP
      have hD : va_D A (mo g q (s_X6_steps_103 v)) := (congrArg (fun z => va_D A z) (mo_A0 g q (s_X6_steps_92 v) (upd ((s_X6_steps_92 v).2 0) 10 ((((s_X6_steps_92 v).2 0) 10) + (1 : Int32))))).mp hD
      refine lv_aload_n hx hb dX6_steps_104 rfl (lv_at hl 1 rfl) ?_
      refine zcVv (n := 0) (As := []) (rest := []) (Xr := []) (Xn := (mo g q (s_X6_steps_105 v))) (ci := 6) (C := RX6) (T := TX6) (N := 12) (q0 := 0) hx hb hml hown hts hN (m_X6_lies l g q (s_X6_steps_103 v) ) gX6_steps_X6_lies rfl (by decide +kernel) ⟨rfl, rfl⟩ ⟨Nat.le_of_ble_eq_true rfl, Nat.le_of_ble_eq_true rfl⟩ hK hP hD hS hA (zpn _) rfl rfl rfl hl.1 rfl (Nat.le_of_ble_eq_true rfl) dX6_steps_105 ⟨Nat.zero_le _, Nat.zero_le _⟩ (zpn' _) (fun H locs hP hD hS => ?_)
      refine lv_iconst (v := (1 : Int32)) hx hb dX6_steps_108 (by decide) ?_
      have E : (f_X6_steps v) = ((1 : Int32), (s_X6_steps_105 v)) := (if_neg c_7).trans ((if_pos c_24).trans rfl)
      exact hret _ _ _ _ _ _ dX6_steps_109 (congrArg Prod.fst E).symm (rfl) (congrArg (fun z => (mo g q z.2)) E).symm hP hD hS
    · refine lv_aload_n hx hb dX6_steps_27 rfl (lv_at hl 1 rfl) ?_
      refine va_get (D := g.1) (ci := 6) (v := .ref (q 1)) (C := RX6) (T := TX6) (N := 12) hx hb hts (zin_X6_steps_X6) hown hK hP 0 rfl rfl 0 (by decide) (hts (.fieldLink RX6 7 "PegClerksModel" "all" "[I") (by decide +kernel)) (fun _ h9 => h9) rfl dX6_steps_28 ?_
      refine lv_iconst (v := (5 : Int32)) hx hb dX6_steps_31 (by decide) ?_
      refine lv_iconst (v := (1 : Int32)) hx hb dX6_steps_32 (by decide) ?_
      refine z_iast (f := (v.2 0)) (k := 5) hx hb hK hP hD hS 1 0 rfl rfl (zlit (5 : Int32) 136 (by decide +kernel)) (by decide +kernel) dX6_steps_33 (fun H locs hP hD hS => ?_)
      have hP : va_P g.1 vwCl (mo g q (s_X6_steps_33 v)) H := (congrArg (fun z => va_P g.1 vwCl z H) (mo_A0 g q v (upd (v.2 0) 5 (1 : Int32)))).mp hP
      have hD : va_D A (mo g q (s_X6_steps_33 v)) := (congrArg (fun z => va_D A z) (mo_A0 g q v (upd (v.2 0) 5 (1 : Int32)))).mp hD
      refine lv_aload_n hx hb dX6_steps_34 rfl (lv_at hl 1 rfl) ?_
      refine va_get (D := g.1) (ci := 6) (v := .ref (q 1)) (C := RX6) (T := TX6) (N := 12) hx hb hts (zin_X6_steps_X6) hown hK hP 0 rfl rfl 0 (by decide) (hts (.fieldLink RX6 7 "PegClerksModel" "all" "[I") (by decide +kernel)) (fun _ h9 => h9) rfl dX6_steps_35 ?_
      refine lv_bipush (v := (14 : Int32)) hx hb dX6_steps_38 (by decide) ?_
      refine lv_dup2_11 hx hb dX6_steps_40 rfl rfl ?_
      refine z_iald (f := ((s_X6_steps_33 v).2 0)) (k := 14) hx hb hK hP 1 0 rfl rfl (zlit (14 : Int32) 136 (by decide +kernel)) (by decide +kernel) dX6_steps_41 ?_
      refine lv_iconst (v := (1 : Int32)) hx hb dX6_steps_42 (by decide) ?_
      refine lv_iadd hx hb dX6_steps_43 ?_
      refine z_iast (f := ((s_X6_steps_33 v).2 0)) (k := 14) hx hb hK hP hD hS 1 0 rfl rfl (zlit (14 : Int32) 136 (by decide +kernel)) (by decide +kernel) dX6_steps_44 (fun H locs hP hD hS => ?_)
      have hP : va_P g.1 vwCl (mo g q (s_X6_steps_44 v)) H := (congrArg (fun z => va_P g.1 vwCl z H) (mo_A0 g q (s_X6_steps_33 v) (upd ((s_X6_steps_33 v).2 0) 14 ((((s_X6_steps_33 v).2 0) 14) + (1 : Int32))))).mp hP
      have hD : va_D A (mo g q (s_X6_steps_44 v)) := (congrArg (fun z => va_D A z) (mo_A0 g q (s_X6_steps_33 v) (upd ((s_X6_steps_33 v).2 0) 14 ((((s_X6_steps_33 v).2 0) 14) + (1 : Int32))))).mp hD
      refine lv_iconst (v := (0 : Int32)) hx hb dX6_steps_45 (by decide) ?_
      have E : (f_X6_steps v) = ((0 : Int32), (s_X6_steps_44 v)) := (if_neg c_7).trans ((if_neg c_24).trans rfl)
      exact hret _ _ _ _ _ _ dX6_steps_46 (congrArg Prod.fst E).symm (rfl) (congrArg (fun z => (mo g q z.2)) E).symm hP hD hS
  · refine lv_iconst (v := (0 : Int32)) hx hb dX6_steps_10 (by decide) ?_
    have E : (f_X6_steps v) = ((0 : Int32), v) := (if_pos c_7).trans rfl
    exact hret _ _ _ _ _ _ dX6_steps_11 (congrArg Prod.fst E).symm (rfl) (congrArg (fun z => (mo g q z.2)) E).symm hP hD hS
end
