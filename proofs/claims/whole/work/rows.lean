section
-- ===== PART A: goes FIRST, ahead of the names: the tables' words, and 'selects' of the private methods out of them =====
/-- a private method of a class that the tables say can be made, by its rows of tables_1 -/
def lw_okq (q : MethodName × Nat) : Prop := (q.1.cls ≠ "java/lang/invoke/MethodHandle" ∧ q.1.cls ≠ "java/lang/invoke/VarHandle") ∧ Cond.instantiable q.1.cls q.2 ∈ tables_1 ∧ Cond.privateMethod q.1 ∈ tables_1 ∧ Cond.instanceMethod q.1 ∈ tables_1
theorem lw_p0 : lw_okq (⟨"LockDesk$RowLocks", "forgetWhere", "([II)V"⟩, 5) := ⟨⟨by decide +kernel, by decide +kernel⟩, List.mem_of_getElem? (i := 44) (by decide +kernel), List.mem_of_getElem? (i := 140) (by decide +kernel), List.mem_of_getElem? (i := 141) (by decide +kernel)⟩
theorem lw_p1 : lw_okq (⟨"LockDesk$RowLocks", "copy", "(II)V"⟩, 5) := ⟨⟨by decide +kernel, by decide +kernel⟩, List.mem_of_getElem? (i := 44) (by decide +kernel), List.mem_of_getElem? (i := 144) (by decide +kernel), List.mem_of_getElem? (i := 145) (by decide +kernel)⟩
theorem lw_p2 : lw_okq (⟨"LockDesk", "inTheWay", "(IIII)I"⟩, 4) := ⟨⟨by decide +kernel, by decide +kernel⟩, List.mem_of_getElem? (i := 9) (by decide +kernel), List.mem_of_getElem? (i := 180) (by decide +kernel), List.mem_of_getElem? (i := 181) (by decide +kernel)⟩
theorem lw_p3 : lw_okq (⟨"LockDesk$Queue", "wants", "(II)Z"⟩, 7) := ⟨⟨by decide +kernel, by decide +kernel⟩, List.mem_of_getElem? (i := 67) (by decide +kernel), List.mem_of_getElem? (i := 200) (by decide +kernel), List.mem_of_getElem? (i := 201) (by decide +kernel)⟩
theorem lw_p4 : lw_okq (⟨"LockDesk", "closesRing", "(II)Z"⟩, 4) := ⟨⟨by decide +kernel, by decide +kernel⟩, List.mem_of_getElem? (i := 9) (by decide +kernel), List.mem_of_getElem? (i := 209) (by decide +kernel), List.mem_of_getElem? (i := 210) (by decide +kernel)⟩
theorem lw_p5 : lw_okq (⟨"LockDesk", "waitsOn", "(I)I"⟩, 4) := ⟨⟨by decide +kernel, by decide +kernel⟩, List.mem_of_getElem? (i := 9) (by decide +kernel), List.mem_of_getElem? (i := 213) (by decide +kernel), List.mem_of_getElem? (i := 214) (by decide +kernel)⟩
theorem lw_p6 : lw_okq (⟨"LockDesk$Queue", "append", "(I)V"⟩, 7) := ⟨⟨by decide +kernel, by decide +kernel⟩, List.mem_of_getElem? (i := 67) (by decide +kernel), List.mem_of_getElem? (i := 242) (by decide +kernel), List.mem_of_getElem? (i := 243) (by decide +kernel)⟩
theorem lw_p7 : lw_okq (⟨"LockDesk", "wake", "(I)I"⟩, 4) := ⟨⟨by decide +kernel, by decide +kernel⟩, List.mem_of_getElem? (i := 9) (by decide +kernel), List.mem_of_getElem? (i := 282) (by decide +kernel), List.mem_of_getElem? (i := 283) (by decide +kernel)⟩
theorem lw_p8 : lw_okq (⟨"LockDesk$Holdings", "replaceFrom", "(III)V"⟩, 1) := ⟨⟨by decide +kernel, by decide +kernel⟩, List.mem_of_getElem? (i := 31) (by decide +kernel), List.mem_of_getElem? (i := 306) (by decide +kernel), List.mem_of_getElem? (i := 307) (by decide +kernel)⟩
theorem lw_p9 : lw_okq (⟨"LockDeskModel", "isRunning", "(I)Z"⟩, 17) := ⟨⟨by decide +kernel, by decide +kernel⟩, List.mem_of_getElem? (i := 366) (by decide +kernel), List.mem_of_getElem? (i := 438) (by decide +kernel), List.mem_of_getElem? (i := 439) (by decide +kernel)⟩
theorem lw_p10 : lw_okq (⟨"LockDeskModel", "inTheWay", "(IIII)I"⟩, 17) := ⟨⟨by decide +kernel, by decide +kernel⟩, List.mem_of_getElem? (i := 366) (by decide +kernel), List.mem_of_getElem? (i := 446) (by decide +kernel), List.mem_of_getElem? (i := 447) (by decide +kernel)⟩
theorem lw_p11 : lw_okq (⟨"LockDeskModel", "conflicts", "(II)Z"⟩, 17) := ⟨⟨by decide +kernel, by decide +kernel⟩, List.mem_of_getElem? (i := 366) (by decide +kernel), List.mem_of_getElem? (i := 450) (by decide +kernel), List.mem_of_getElem? (i := 451) (by decide +kernel)⟩
theorem lw_p12 : lw_okq (⟨"LockDeskModel", "holdsAgainst", "(III)Z"⟩, 17) := ⟨⟨by decide +kernel, by decide +kernel⟩, List.mem_of_getElem? (i := 366) (by decide +kernel), List.mem_of_getElem? (i := 454) (by decide +kernel), List.mem_of_getElem? (i := 455) (by decide +kernel)⟩
theorem lw_p13 : lw_okq (⟨"LockDeskModel", "leads", "(II)Z"⟩, 17) := ⟨⟨by decide +kernel, by decide +kernel⟩, List.mem_of_getElem? (i := 366) (by decide +kernel), List.mem_of_getElem? (i := 458) (by decide +kernel), List.mem_of_getElem? (i := 459) (by decide +kernel)⟩
theorem lw_p14 : lw_okq (⟨"LockDeskModel", "waitsOn", "(I)I"⟩, 17) := ⟨⟨by decide +kernel, by decide +kernel⟩, List.mem_of_getElem? (i := 366) (by decide +kernel), List.mem_of_getElem? (i := 462) (by decide +kernel), List.mem_of_getElem? (i := 463) (by decide +kernel)⟩
theorem lw_p15 : lw_okq (⟨"LockDeskModel", "begin", "(II)V"⟩, 17) := ⟨⟨by decide +kernel, by decide +kernel⟩, List.mem_of_getElem? (i := 366) (by decide +kernel), List.mem_of_getElem? (i := 466) (by decide +kernel), List.mem_of_getElem? (i := 467) (by decide +kernel)⟩
def lw_privs_1 : List (MethodName × Nat) := [(⟨"LockDesk$RowLocks", "forgetWhere", "([II)V"⟩, 5), (⟨"LockDesk$RowLocks", "copy", "(II)V"⟩, 5), (⟨"LockDesk", "inTheWay", "(IIII)I"⟩, 4), (⟨"LockDesk$Queue", "wants", "(II)Z"⟩, 7), (⟨"LockDesk", "closesRing", "(II)Z"⟩, 4), (⟨"LockDesk", "waitsOn", "(I)I"⟩, 4), (⟨"LockDesk$Queue", "append", "(I)V"⟩, 7), (⟨"LockDesk", "wake", "(I)I"⟩, 4), (⟨"LockDesk$Holdings", "replaceFrom", "(III)V"⟩, 1), (⟨"LockDeskModel", "isRunning", "(I)Z"⟩, 17), (⟨"LockDeskModel", "inTheWay", "(IIII)I"⟩, 17), (⟨"LockDeskModel", "conflicts", "(II)Z"⟩, 17), (⟨"LockDeskModel", "holdsAgainst", "(III)Z"⟩, 17), (⟨"LockDeskModel", "leads", "(II)Z"⟩, 17), (⟨"LockDeskModel", "waitsOn", "(I)I"⟩, 17), (⟨"LockDeskModel", "begin", "(II)V"⟩, 17)]
theorem lw_r1 : ∀ q ∈ lw_privs_1, lw_okq q := List.forall_mem_cons.mpr ⟨lw_p0, List.forall_mem_cons.mpr ⟨lw_p1, List.forall_mem_cons.mpr ⟨lw_p2, List.forall_mem_cons.mpr ⟨lw_p3, List.forall_mem_cons.mpr ⟨lw_p4, List.forall_mem_cons.mpr ⟨lw_p5, List.forall_mem_cons.mpr ⟨lw_p6, List.forall_mem_cons.mpr ⟨lw_p7, List.forall_mem_cons.mpr ⟨lw_p8, List.forall_mem_cons.mpr ⟨lw_p9, List.forall_mem_cons.mpr ⟨lw_p10, List.forall_mem_cons.mpr ⟨lw_p11, List.forall_mem_cons.mpr ⟨lw_p12, List.forall_mem_cons.mpr ⟨lw_p13, List.forall_mem_cons.mpr ⟨lw_p14, List.forall_mem_cons.mpr ⟨lw_p15, fun _ h => absurd h List.not_mem_nil⟩⟩⟩⟩⟩⟩⟩⟩⟩⟩⟩⟩⟩⟩⟩⟩
theorem lw_p16 : lw_okq (⟨"LockDeskModel", "shrink", "()V"⟩, 17) := ⟨⟨by decide +kernel, by decide +kernel⟩, List.mem_of_getElem? (i := 366) (by decide +kernel), List.mem_of_getElem? (i := 474) (by decide +kernel), List.mem_of_getElem? (i := 475) (by decide +kernel)⟩
def lw_privs_2 : List (MethodName × Nat) := [(⟨"LockDeskModel", "shrink", "()V"⟩, 17)]
theorem lw_r2 : ∀ q ∈ lw_privs_2, lw_okq q := List.forall_mem_cons.mpr ⟨lw_p16, fun _ h => absurd h List.not_mem_nil⟩
def lw_privs : List (MethodName × Nat) := lw_privs_1 ++ (lw_privs_2)
def lw_tbl : List Cond := k2_sels lw_privs ++ tables_1
theorem lw_privs_ok : ∀ q ∈ lw_privs, lw_okq q := by
  show ∀ q ∈ lw_privs_1 ++ (lw_privs_2), lw_okq q
  exact List.forall_mem_append.mpr ⟨lw_r1, lw_r2⟩
-- ===== end of PART A; then your names; then what follows =====
end
section
/-! ===== BEGIN words of one list among another's, by their places ===== -/
theorem goodIn_r {big : List Cond} (ws : List Cond) (ps : List Nat) (hp : ws = ps.filterMap (fun i => big[i]?)) (h : ws.all goodWord = true) : GoodIn big ws := by
  intro w hw
  have h1 := List.all_eq_true.mp h w hw
  rw [hp] at hw
  obtain ⟨i, -, hi⟩ := List.mem_filterMap.mp hw
  have hm : w ∈ big := by first | exact List.mem_of_getElem? hi | exact List.getElem?_mem hi
  exact ⟨hm, good_of_word h1⟩
theorem goodIn_app {big a b : List Cond} (ha : GoodIn big a) (hb : GoodIn big b) : GoodIn big (a ++ b) := fun w h => (List.mem_append.mp h).elim (ha w) (hb w)
theorem goodIn_ca {big a b : List Cond} {c : Cond} (ha : GoodIn big (c :: a)) (hb : GoodIn big b) : GoodIn big (c :: (a ++ b)) := fun w h => (List.mem_cons.mp h).elim (fun e => ha w (List.mem_cons.mpr (Or.inl e))) (fun h => (List.mem_append.mp h).elim (fun h => ha w (List.mem_cons.mpr (Or.inr h))) (hb w))
theorem goodIn_sub {big ws : List Cond} (hm : ∀ w ∈ ws, w ∈ big) (h : ws.all goodWord = true) : GoodIn big ws := fun w hw => ⟨hm w hw, good_of_word (List.all_eq_true.mp h w hw)⟩
/-! ===== END ===== -/

/-! ===== BEGIN printed: names, fields, word lists, decode rows ===== -/
def RX0 : String := "LockDesk$Holdings"
def TX0 : u_T := fun k => match k with
  | _ => ("LockDesk$Holdings", "levels", "[B", true)
def tyX0 : Nat → FieldType := fun k => match k with
  | _ => .array .byte
abbrev wsX00 : List Cond := u_ws RX0 TX0 1
theorem nmX0 : ∀ a, a < 1 → ∀ b, b < 1 → a ≠ b → (TX0 a).2.1 ≠ (TX0 b).2.1 := by decide +kernel
theorem tyX0_ok : ∀ k, k < 1 → parseFieldDescriptor (TX0 k).2.2.1 = some (tyX0 k) := by decide +kernel
abbrev cX0_init : ByteArray := prog_2_method_1_code
def yX0_init : MethodName := ⟨RX0, "<init>", "()V"⟩
abbrev cX0_levelOf : ByteArray := prog_2_method_2_code
def yX0_levelOf : MethodName := ⟨RX0, "levelOf", "(III)I"⟩
abbrev cX0_take : ByteArray := prog_2_method_3_code
def yX0_take : MethodName := ⟨RX0, "take", "(IIII)V"⟩
abbrev cX0_standAgainst : ByteArray := prog_2_method_4_code
def yX0_standAgainst : MethodName := ⟨RX0, "standAgainst", "(III)Z"⟩
abbrev cX0_giveUp : ByteArray := prog_2_method_5_code
def yX0_giveUp : MethodName := ⟨RX0, "giveUp", "(II)V"⟩
abbrev cX0_lower : ByteArray := prog_2_method_6_code
def yX0_lower : MethodName := ⟨RX0, "lower", "(II)V"⟩
abbrev cX0_forgetTable : ByteArray := prog_2_method_7_code
def yX0_forgetTable : MethodName := ⟨RX0, "forgetTable", "(I)V"⟩
abbrev cX0_replaceFrom : ByteArray := prog_2_method_8_code
def yX0_replaceFrom : MethodName := ⟨RX0, "replaceFrom", "(III)V"⟩
abbrev cX0_cell : ByteArray := prog_2_method_9_code
def yX0_cell : MethodName := ⟨RX0, "cell", "(III)I"⟩
def RX1 : String := "LockDesk$Numbers"
def TX1 : u_T := fun k => match k with
  | 0 => ("LockDesk$Numbers", "runners", "[B", true)
  | _ => ("LockDesk$Numbers", "given", "I", false)
def tyX1 : Nat → FieldType := fun k => match k with
  | 0 => .array .byte
  | _ => .int
abbrev wsX10 : List Cond := u_ws RX1 TX1 2
theorem nmX1 : ∀ a, a < 2 → ∀ b, b < 2 → a ≠ b → (TX1 a).2.1 ≠ (TX1 b).2.1 := by decide +kernel
theorem tyX1_ok : ∀ k, k < 2 → parseFieldDescriptor (TX1 k).2.2.1 = some (tyX1 k) := by decide +kernel
abbrev cX1_init : ByteArray := prog_3_method_1_code
def yX1_init : MethodName := ⟨RX1, "<init>", "()V"⟩
abbrev cX1_give : ByteArray := prog_3_method_2_code
def yX1_give : MethodName := ⟨RX1, "give", "(I)I"⟩
abbrev cX1_wasGiven : ByteArray := prog_3_method_3_code
def yX1_wasGiven : MethodName := ⟨RX1, "wasGiven", "(I)Z"⟩
abbrev cX1_runnerOf : ByteArray := prog_3_method_4_code
def yX1_runnerOf : MethodName := ⟨RX1, "runnerOf", "(I)I"⟩
abbrev cX1_stop : ByteArray := prog_3_method_5_code
def yX1_stop : MethodName := ⟨RX1, "stop", "(I)V"⟩
def RX2 : String := "LockDesk$Queue"
def TX2 : u_T := fun k => match k with
  | 0 => ("LockDesk$Queue", "order", "[I", true)
  | 1 => ("LockDesk$Queue", "count", "I", false)
  | 2 => ("LockDesk$Queue", "awaited", "[I", true)
  | 3 => ("LockDesk$Queue", "tables", "[I", true)
  | 4 => ("LockDesk$Queue", "modes", "[I", true)
  | 5 => ("LockDesk$Queue", "levels", "[I", true)
  | _ => ("LockDesk$Queue", "dropped", "[Z", true)
def tyX2 : Nat → FieldType := fun k => match k with
  | 0 => .array .int
  | 1 => .int
  | 2 => .array .int
  | 3 => .array .int
  | 4 => .array .int
  | 5 => .array .int
  | _ => .array .boolean
abbrev wsX20 : List Cond := u_ws RX2 TX2 7
theorem nmX2 : ∀ a, a < 7 → ∀ b, b < 7 → a ≠ b → (TX2 a).2.1 ≠ (TX2 b).2.1 := by decide +kernel
theorem tyX2_ok : ∀ k, k < 7 → parseFieldDescriptor (TX2 k).2.2.1 = some (tyX2 k) := by decide +kernel
abbrev cX2_init : ByteArray := prog_4_method_1_code
def yX2_init : MethodName := ⟨RX2, "<init>", "()V"⟩
abbrev cX2_size : ByteArray := prog_4_method_2_code
def yX2_size : MethodName := ⟨RX2, "size", "()I"⟩
abbrev cX2_sessionAt : ByteArray := prog_4_method_3_code
def yX2_sessionAt : MethodName := ⟨RX2, "sessionAt", "(I)I"⟩
abbrev cX2_placeOf : ByteArray := prog_4_method_4_code
def yX2_placeOf : MethodName := ⟨RX2, "placeOf", "(I)I"⟩
abbrev cX2_contains : ByteArray := prog_4_method_5_code
def yX2_contains : MethodName := ⟨RX2, "contains", "(I)Z"⟩
abbrev cX2_addForTable : ByteArray := prog_4_method_6_code
def yX2_addForTable : MethodName := ⟨RX2, "addForTable", "(IIII)V"⟩
abbrev cX2_addForNumber : ByteArray := prog_4_method_7_code
def yX2_addForNumber : MethodName := ⟨RX2, "addForNumber", "(II)V"⟩
abbrev cX2_remove : ByteArray := prog_4_method_8_code
def yX2_remove : MethodName := ⟨RX2, "remove", "(I)V"⟩
abbrev cX2_earlierAgainst : ByteArray := prog_4_method_9_code
def yX2_earlierAgainst : MethodName := ⟨RX2, "earlierAgainst", "(III)I"⟩
abbrev cX2_markDropped : ByteArray := prog_4_method_10_code
def yX2_markDropped : MethodName := ⟨RX2, "markDropped", "(I)V"⟩
abbrev cX2_lower : ByteArray := prog_4_method_11_code
def yX2_lower : MethodName := ⟨RX2, "lower", "(II)V"⟩
abbrev cX2_isForNumber : ByteArray := prog_4_method_12_code
def yX2_isForNumber : MethodName := ⟨RX2, "isForNumber", "(I)Z"⟩
abbrev cX2_numberOf : ByteArray := prog_4_method_13_code
def yX2_numberOf : MethodName := ⟨RX2, "numberOf", "(I)I"⟩
abbrev cX2_tableOf : ByteArray := prog_4_method_14_code
def yX2_tableOf : MethodName := ⟨RX2, "tableOf", "(I)I"⟩
abbrev cX2_modeOf : ByteArray := prog_4_method_15_code
def yX2_modeOf : MethodName := ⟨RX2, "modeOf", "(I)I"⟩
abbrev cX2_levelOf : ByteArray := prog_4_method_16_code
def yX2_levelOf : MethodName := ⟨RX2, "levelOf", "(I)I"⟩
abbrev cX2_isDropped : ByteArray := prog_4_method_17_code
def yX2_isDropped : MethodName := ⟨RX2, "isDropped", "(I)Z"⟩
abbrev cX2_wants : ByteArray := prog_4_method_18_code
def yX2_wants : MethodName := ⟨RX2, "wants", "(II)Z"⟩
abbrev cX2_append : ByteArray := prog_4_method_19_code
def yX2_append : MethodName := ⟨RX2, "append", "(I)V"⟩
def RX3 : String := "LockDesk$RowLocks"
def TX3 : u_T := fun k => match k with
  | 0 => ("LockDesk$RowLocks", "lockers", "[I", true)
  | 1 => ("LockDesk$RowLocks", "sessions", "[I", true)
  | 2 => ("LockDesk$RowLocks", "rows", "[I", true)
  | 3 => ("LockDesk$RowLocks", "strengths", "[I", true)
  | _ => ("LockDesk$RowLocks", "count", "I", false)
def tyX3 : Nat → FieldType := fun k => match k with
  | 0 => .array .int
  | 1 => .array .int
  | 2 => .array .int
  | 3 => .array .int
  | _ => .int
abbrev wsX30 : List Cond := u_ws RX3 TX3 5
theorem nmX3 : ∀ a, a < 5 → ∀ b, b < 5 → a ≠ b → (TX3 a).2.1 ≠ (TX3 b).2.1 := by decide +kernel
theorem tyX3_ok : ∀ k, k < 5 → parseFieldDescriptor (TX3 k).2.2.1 = some (tyX3 k) := by decide +kernel
abbrev cX3_init : ByteArray := prog_5_method_1_code
def yX3_init : MethodName := ⟨RX3, "<init>", "()V"⟩
abbrev cX3_suffices : ByteArray := prog_5_method_2_code
def yX3_suffices : MethodName := ⟨RX3, "suffices", "(III)Z"⟩
abbrev cX3_leastInConflict : ByteArray := prog_5_method_3_code
def yX3_leastInConflict : MethodName := ⟨RX3, "leastInConflict", "(III)I"⟩
abbrev cX3_note : ByteArray := prog_5_method_4_code
def yX3_note : MethodName := ⟨RX3, "note", "(IIII)Z"⟩
abbrev cX3_forgetNumber : ByteArray := prog_5_method_5_code
def yX3_forgetNumber : MethodName := ⟨RX3, "forgetNumber", "(I)V"⟩
abbrev cX3_forgetRow : ByteArray := prog_5_method_6_code
def yX3_forgetRow : MethodName := ⟨RX3, "forgetRow", "(I)V"⟩
abbrev cX3_signedNumberAt : ByteArray := prog_5_method_7_code
def yX3_signedNumberAt : MethodName := ⟨RX3, "signedNumberAt", "(II)I"⟩
abbrev cX3_forgetWhere : ByteArray := prog_5_method_8_code
def yX3_forgetWhere : MethodName := ⟨RX3, "forgetWhere", "([II)V"⟩
abbrev cX3_copy : ByteArray := prog_5_method_9_code
def yX3_copy : MethodName := ⟨RX3, "copy", "(II)V"⟩
def RX4 : String := "LockDesk"
def TX4 : u_T := fun k => match k with
  | 0 => ("LockDesk", "numbers", "LLockDesk$Numbers;", true)
  | 1 => ("LockDesk", "holdings", "LLockDesk$Holdings;", true)
  | 2 => ("LockDesk", "rowLocks", "LLockDesk$RowLocks;", true)
  | _ => ("LockDesk", "queue", "LLockDesk$Queue;", true)
def tyX4 : Nat → FieldType := fun k => match k with
  | 0 => .object "LockDesk$Numbers"
  | 1 => .object "LockDesk$Holdings"
  | 2 => .object "LockDesk$RowLocks"
  | _ => .object "LockDesk$Queue"
abbrev wsX40 : List Cond := u_ws RX4 TX4 4
theorem nmX4 : ∀ a, a < 4 → ∀ b, b < 4 → a ≠ b → (TX4 a).2.1 ≠ (TX4 b).2.1 := by decide +kernel
theorem tyX4_ok : ∀ k, k < 4 → parseFieldDescriptor (TX4 k).2.2.1 = some (tyX4 k) := by decide +kernel
abbrev cX4_init : ByteArray := prog_1_method_1_code
def yX4_init : MethodName := ⟨RX4, "<init>", "()V"⟩
abbrev cX4_number : ByteArray := prog_1_method_2_code
def yX4_number : MethodName := ⟨RX4, "number", "(I)I"⟩
abbrev cX4_over : ByteArray := prog_1_method_3_code
def yX4_over : MethodName := ⟨RX4, "over", "(I)Z"⟩
abbrev cX4_ask : ByteArray := prog_1_method_4_code
def yX4_ask : MethodName := ⟨RX4, "ask", "(IIII)I"⟩
abbrev cX4_lock : ByteArray := prog_1_method_5_code
def yX4_lock : MethodName := ⟨RX4, "lock", "(III)I"⟩
abbrev cX4_await : ByteArray := prog_1_method_6_code
def yX4_await : MethodName := ⟨RX4, "await", "(II)I"⟩
abbrev cX4_next : ByteArray := prog_1_method_7_code
def yX4_next : MethodName := ⟨RX4, "next", "()I"⟩
abbrev cX4_cancel : ByteArray := prog_1_method_8_code
def yX4_cancel : MethodName := ⟨RX4, "cancel", "(I)Z"⟩
abbrev cX4_end : ByteArray := prog_1_method_9_code
def yX4_end : MethodName := ⟨RX4, "end", "(II)Z"⟩
abbrev cX4_release : ByteArray := prog_1_method_10_code
def yX4_release : MethodName := ⟨RX4, "release", "(II)Z"⟩
abbrev cX4_drop : ByteArray := prog_1_method_11_code
def yX4_drop : MethodName := ⟨RX4, "drop", "(I)Z"⟩
abbrev cX4_clear : ByteArray := prog_1_method_12_code
def yX4_clear : MethodName := ⟨RX4, "clear", "(I)Z"⟩
abbrev cX4_holds : ByteArray := prog_1_method_13_code
def yX4_holds : MethodName := ⟨RX4, "holds", "(III)I"⟩
abbrev cX4_locker : ByteArray := prog_1_method_14_code
def yX4_locker : MethodName := ⟨RX4, "locker", "(II)I"⟩
abbrev cX4_on : ByteArray := prog_1_method_15_code
def yX4_on : MethodName := ⟨RX4, "on", "(I)I"⟩
abbrev cX4_waiting : ByteArray := prog_1_method_16_code
def yX4_waiting : MethodName := ⟨RX4, "waiting", "(I)I"⟩
abbrev cX4_wish : ByteArray := prog_1_method_17_code
def yX4_wish : MethodName := ⟨RX4, "wish", "(I)I"⟩
abbrev cX4_wake : ByteArray := prog_1_method_18_code
def yX4_wake : MethodName := ⟨RX4, "wake", "(I)I"⟩
abbrev cX4_waitsOn : ByteArray := prog_1_method_19_code
def yX4_waitsOn : MethodName := ⟨RX4, "waitsOn", "(I)I"⟩
abbrev cX4_inTheWay : ByteArray := prog_1_method_20_code
def yX4_inTheWay : MethodName := ⟨RX4, "inTheWay", "(IIII)I"⟩
abbrev cX4_closesRing : ByteArray := prog_1_method_21_code
def yX4_closesRing : MethodName := ⟨RX4, "closesRing", "(II)Z"⟩
abbrev cX4_conflict : ByteArray := prog_1_method_22_code
def yX4_conflict : MethodName := ⟨RX4, "conflict", "(II)Z"⟩
abbrev cX4_has : ByteArray := prog_1_method_23_code
def yX4_has : MethodName := ⟨RX4, "has", "(II)Z"⟩
abbrev cX4_isSession : ByteArray := prog_1_method_24_code
def yX4_isSession : MethodName := ⟨RX4, "isSession", "(I)Z"⟩
abbrev cX4_isTable : ByteArray := prog_1_method_25_code
def yX4_isTable : MethodName := ⟨RX4, "isTable", "(I)Z"⟩
abbrev cX4_isMode : ByteArray := prog_1_method_26_code
def yX4_isMode : MethodName := ⟨RX4, "isMode", "(I)Z"⟩
abbrev cX4_isLevel : ByteArray := prog_1_method_27_code
def yX4_isLevel : MethodName := ⟨RX4, "isLevel", "(I)Z"⟩
abbrev cX4_isRow : ByteArray := prog_1_method_28_code
def yX4_isRow : MethodName := ⟨RX4, "isRow", "(I)Z"⟩
def RX5 : String := "LockDeskModel"
def TX5 : u_T := fun k => match k with
  | 0 => ("LockDeskModel", "against", "[I", true)
  | 1 => ("LockDeskModel", "given", "I", false)
  | 2 => ("LockDeskModel", "owner", "[I", true)
  | 3 => ("LockDeskModel", "runs", "[Z", true)
  | 4 => ("LockDeskModel", "held", "[I", true)
  | 5 => ("LockDeskModel", "kind", "[I", true)
  | 6 => ("LockDeskModel", "table", "[I", true)
  | 7 => ("LockDeskModel", "mode", "[I", true)
  | 8 => ("LockDeskModel", "level", "[I", true)
  | 9 => ("LockDeskModel", "dropped", "[Z", true)
  | 10 => ("LockDeskModel", "number", "[I", true)
  | 11 => ("LockDeskModel", "began", "[I", true)
  | 12 => ("LockDeskModel", "time", "I", false)
  | 13 => ("LockDeskModel", "locks", "I", false)
  | 14 => ("LockDeskModel", "lockRow", "[I", true)
  | 15 => ("LockDeskModel", "lockBy", "[I", true)
  | _ => ("LockDeskModel", "lockHow", "[I", true)
def tyX5 : Nat → FieldType := fun k => match k with
  | 0 => .array .int
  | 1 => .int
  | 2 => .array .int
  | 3 => .array .boolean
  | 4 => .array .int
  | 5 => .array .int
  | 6 => .array .int
  | 7 => .array .int
  | 8 => .array .int
  | 9 => .array .boolean
  | 10 => .array .int
  | 11 => .array .int
  | 12 => .int
  | 13 => .int
  | 14 => .array .int
  | 15 => .array .int
  | _ => .array .int
abbrev wsX50 : List Cond := u_ws RX5 TX5 17
theorem nmX5 : ∀ a, a < 17 → ∀ b, b < 17 → a ≠ b → (TX5 a).2.1 ≠ (TX5 b).2.1 := by decide +kernel
theorem tyX5_ok : ∀ k, k < 17 → parseFieldDescriptor (TX5 k).2.2.1 = some (tyX5 k) := by decide +kernel
abbrev cX5_init : ByteArray := prog_7_method_1_code
def yX5_init : MethodName := ⟨RX5, "<init>", "()V"⟩
abbrev cX5_in : ByteArray := prog_7_method_2_code
def yX5_in : MethodName := ⟨RX5, "in", "(III)Z"⟩
abbrev cX5_isSession : ByteArray := prog_7_method_3_code
def yX5_isSession : MethodName := ⟨RX5, "isSession", "(I)Z"⟩
abbrev cX5_isRunning : ByteArray := prog_7_method_4_code
def yX5_isRunning : MethodName := ⟨RX5, "isRunning", "(I)Z"⟩
abbrev cX5_conflicts : ByteArray := prog_7_method_5_code
def yX5_conflicts : MethodName := ⟨RX5, "conflicts", "(II)Z"⟩
abbrev cX5_number : ByteArray := prog_7_method_6_code
def yX5_number : MethodName := ⟨RX5, "number", "(I)I"⟩
abbrev cX5_over : ByteArray := prog_7_method_7_code
def yX5_over : MethodName := ⟨RX5, "over", "(I)Z"⟩
abbrev cX5_holdsAgainst : ByteArray := prog_7_method_8_code
def yX5_holdsAgainst : MethodName := ⟨RX5, "holdsAgainst", "(III)Z"⟩
abbrev cX5_inTheWay : ByteArray := prog_7_method_9_code
def yX5_inTheWay : MethodName := ⟨RX5, "inTheWay", "(IIII)I"⟩
abbrev cX5_waitsOn : ByteArray := prog_7_method_10_code
def yX5_waitsOn : MethodName := ⟨RX5, "waitsOn", "(I)I"⟩
abbrev cX5_leads : ByteArray := prog_7_method_11_code
def yX5_leads : MethodName := ⟨RX5, "leads", "(II)Z"⟩
abbrev cX5_begin : ByteArray := prog_7_method_12_code
def yX5_begin : MethodName := ⟨RX5, "begin", "(II)V"⟩
abbrev cX5_ask : ByteArray := prog_7_method_13_code
def yX5_ask : MethodName := ⟨RX5, "ask", "(IIII)I"⟩
abbrev cX5_shrink : ByteArray := prog_7_method_14_code
def yX5_shrink : MethodName := ⟨RX5, "shrink", "()V"⟩
abbrev cX5_lock : ByteArray := prog_7_method_15_code
def yX5_lock : MethodName := ⟨RX5, "lock", "(III)I"⟩
abbrev cX5_clear : ByteArray := prog_7_method_16_code
def yX5_clear : MethodName := ⟨RX5, "clear", "(I)Z"⟩
abbrev cX5_locker : ByteArray := prog_7_method_17_code
def yX5_locker : MethodName := ⟨RX5, "locker", "(II)I"⟩
abbrev cX5_await : ByteArray := prog_7_method_18_code
def yX5_await : MethodName := ⟨RX5, "await", "(II)I"⟩
abbrev cX5_waiting : ByteArray := prog_7_method_19_code
def yX5_waiting : MethodName := ⟨RX5, "waiting", "(I)I"⟩
abbrev cX5_next : ByteArray := prog_7_method_20_code
def yX5_next : MethodName := ⟨RX5, "next", "()I"⟩
abbrev cX5_cancel : ByteArray := prog_7_method_21_code
def yX5_cancel : MethodName := ⟨RX5, "cancel", "(I)Z"⟩
abbrev cX5_end : ByteArray := prog_7_method_22_code
def yX5_end : MethodName := ⟨RX5, "end", "(II)Z"⟩
abbrev cX5_release : ByteArray := prog_7_method_23_code
def yX5_release : MethodName := ⟨RX5, "release", "(II)Z"⟩
abbrev cX5_drop : ByteArray := prog_7_method_24_code
def yX5_drop : MethodName := ⟨RX5, "drop", "(I)Z"⟩
abbrev cX5_holds : ByteArray := prog_7_method_25_code
def yX5_holds : MethodName := ⟨RX5, "holds", "(III)I"⟩
abbrev cX5_on : ByteArray := prog_7_method_26_code
def yX5_on : MethodName := ⟨RX5, "on", "(I)I"⟩
abbrev cX5_wish : ByteArray := prog_7_method_27_code
def yX5_wish : MethodName := ⟨RX5, "wish", "(I)I"⟩
def RJ7 : String := "java/util/Arrays"
def TJ7 : u_T := fun k => match k with
  | _ => ("", "", "", false)
def tyJ7 : Nat → FieldType := fun k => match k with
  | _ => .int
abbrev wsJ70 : List Cond := u_ws RJ7 TJ7 0
theorem nmJ7 : ∀ a, a < 0 → ∀ b, b < 0 → a ≠ b → (TJ7 a).2.1 ≠ (TJ7 b).2.1 := by decide +kernel
theorem tyJ7_ok : ∀ k, k < 0 → parseFieldDescriptor (TJ7 k).2.2.1 = some (tyJ7 k) := by decide +kernel
abbrev cJ7_fill_031fb : ByteArray := prog_8_method_109_code
def yJ7_fill_031fb : MethodName := ⟨RJ7, "fill", "([BB)V"⟩
def RL : String := "LockDeskLaw"
def wsJ7_fill_031fb : List Cond := .code yJ7_fill_031fb cJ7_fill_031fb 4 none :: ([])
def wsX0_init : List Cond := .code yX0_init cX0_init 1 none :: ([.methodLink RX0 3 objectInit, .instanceMethod objectInit, .code objectInit ⟨#[0xb1]⟩ 1 none, .arrayClass .byte, .fieldLink RX0 11 "LockDesk$Holdings" "levels" "[B", .methodLink RX0 15 yJ7_fill_031fb, .static yJ7_fill_031fb, .initialized RJ7, .code yJ7_fill_031fb cJ7_fill_031fb 4 none] ++ wsX00)
def wsX0_cell : List Cond := .code yX0_cell cX0_cell 3 (some .int) :: ([])
def wsX0_levelOf : List Cond := .code yX0_levelOf cX0_levelOf 4 (some .int) :: ([.fieldLink RX0 11 "LockDesk$Holdings" "levels" "[B", .methodLink RX0 21 yX0_cell, .static yX0_cell, .initialized RX0, .code yX0_cell cX0_cell 3 (some .int)] ++ wsX00)
def wsX0_take : List Cond := .code yX0_take cX0_take 5 none :: ([.fieldLink RX0 11 "LockDesk$Holdings" "levels" "[B", .methodLink RX0 21 yX0_cell, .static yX0_cell, .initialized RX0, .code yX0_cell cX0_cell 3 (some .int)] ++ wsX00)
def wsX4_has : List Cond := .code yX4_has cX4_has 2 (some .boolean) :: ([])
def wsX4_conflict : List Cond := .code yX4_conflict cX4_conflict 2 (some .boolean) :: ([.fieldLink RX4 172 "LockDesk" "CONFLICTS" "[I", .methodLink RX4 169 yX4_has, .static yX4_has, .initialized RX4, .code yX4_has cX4_has 2 (some .boolean)])
def wsX0_standAgainst : List Cond := .code yX0_standAgainst cX0_standAgainst 5 (some .boolean) :: ([.fieldLink RX0 11 "LockDesk$Holdings" "levels" "[B", .static yX4_conflict, .initialized RX4, .code yX4_conflict cX4_conflict 2 (some .boolean), .fieldLink RX4 172 "LockDesk" "CONFLICTS" "[I", .methodLink RX4 169 yX4_has, .static yX4_has, .code yX4_has cX4_has 2 (some .boolean), .methodLink RX0 21 yX0_cell, .static yX0_cell, .initialized RX0, .code yX0_cell cX0_cell 3 (some .int)] ++ wsX00)
def wsX0_replaceFrom : List Cond := .code yX0_replaceFrom cX0_replaceFrom 6 none :: ([.fieldLink RX0 11 "LockDesk$Holdings" "levels" "[B", .methodLink RX0 21 yX0_cell, .static yX0_cell, .initialized RX0, .code yX0_cell cX0_cell 3 (some .int)] ++ wsX00)
def wsX0_giveUp : List Cond := .code yX0_giveUp cX0_giveUp 3 none :: ([.methodLink RX0 29 yX0_replaceFrom, .instanceMethod yX0_replaceFrom, .selects RX0 yX0_replaceFrom yX0_replaceFrom, .initialized RX0, .code yX0_replaceFrom cX0_replaceFrom 6 none, .fieldLink RX0 11 "LockDesk$Holdings" "levels" "[B", .methodLink RX0 21 yX0_cell, .static yX0_cell, .code yX0_cell cX0_cell 3 (some .int)] ++ wsX00)
def wsX0_lower : List Cond := .code yX0_lower cX0_lower 3 none :: ([.methodLink RX0 29 yX0_replaceFrom, .instanceMethod yX0_replaceFrom, .selects RX0 yX0_replaceFrom yX0_replaceFrom, .initialized RX0, .code yX0_replaceFrom cX0_replaceFrom 6 none, .fieldLink RX0 11 "LockDesk$Holdings" "levels" "[B", .methodLink RX0 21 yX0_cell, .static yX0_cell, .code yX0_cell cX0_cell 3 (some .int)] ++ wsX00)
def wsX0_forgetTable : List Cond := .code yX0_forgetTable cX0_forgetTable 4 none :: ([.fieldLink RX0 11 "LockDesk$Holdings" "levels" "[B", .methodLink RX0 21 yX0_cell, .static yX0_cell, .initialized RX0, .code yX0_cell cX0_cell 3 (some .int)] ++ wsX00)
def wsX1_init : List Cond := .code yX1_init cX1_init 1 none :: ([.methodLink RX1 3 objectInit, .instanceMethod objectInit, .code objectInit ⟨#[0xb1]⟩ 1 none, .arrayClass .byte, .fieldLink RX1 9 "LockDesk$Numbers" "runners" "[B", .fieldLink RX1 15 "LockDesk$Numbers" "given" "I"] ++ wsX10)
def wsX1_give : List Cond := .code yX1_give cX1_give 2 (some .int) :: ([.fieldLink RX1 15 "LockDesk$Numbers" "given" "I", .fieldLink RX1 9 "LockDesk$Numbers" "runners" "[B"] ++ wsX10)
def wsX1_wasGiven : List Cond := .code yX1_wasGiven cX1_wasGiven 2 (some .boolean) :: ([.fieldLink RX1 15 "LockDesk$Numbers" "given" "I"] ++ wsX10)
def wsX1_runnerOf : List Cond := .code yX1_runnerOf cX1_runnerOf 2 (some .int) :: ([.fieldLink RX1 9 "LockDesk$Numbers" "runners" "[B", .methodLink RX1 19 yX1_wasGiven, .instanceMethod yX1_wasGiven, .selects RX1 yX1_wasGiven yX1_wasGiven, .initialized RX1, .code yX1_wasGiven cX1_wasGiven 2 (some .boolean), .fieldLink RX1 15 "LockDesk$Numbers" "given" "I"] ++ wsX10)
def wsX1_stop : List Cond := .code yX1_stop cX1_stop 2 none :: ([.fieldLink RX1 9 "LockDesk$Numbers" "runners" "[B", .methodLink RX1 19 yX1_wasGiven, .instanceMethod yX1_wasGiven, .selects RX1 yX1_wasGiven yX1_wasGiven, .initialized RX1, .code yX1_wasGiven cX1_wasGiven 2 (some .boolean), .fieldLink RX1 15 "LockDesk$Numbers" "given" "I"] ++ wsX10)
def wsX2_init : List Cond := .code yX2_init cX2_init 1 none :: ([.methodLink RX2 3 objectInit, .instanceMethod objectInit, .code objectInit ⟨#[0xb1]⟩ 1 none, .arrayClass .int, .fieldLink RX2 9 "LockDesk$Queue" "order" "[I", .fieldLink RX2 15 "LockDesk$Queue" "count" "I", .fieldLink RX2 19 "LockDesk$Queue" "awaited" "[I", .fieldLink RX2 22 "LockDesk$Queue" "tables" "[I", .fieldLink RX2 25 "LockDesk$Queue" "modes" "[I", .fieldLink RX2 28 "LockDesk$Queue" "levels" "[I", .arrayClass .boolean, .fieldLink RX2 31 "LockDesk$Queue" "dropped" "[Z"] ++ wsX20)
def wsX2_size : List Cond := .code yX2_size cX2_size 1 (some .int) :: ([.fieldLink RX2 15 "LockDesk$Queue" "count" "I"] ++ wsX20)
def wsX2_sessionAt : List Cond := .code yX2_sessionAt cX2_sessionAt 2 (some .int) :: ([.fieldLink RX2 15 "LockDesk$Queue" "count" "I", .fieldLink RX2 9 "LockDesk$Queue" "order" "[I"] ++ wsX20)
def wsX2_placeOf : List Cond := .code yX2_placeOf cX2_placeOf 3 (some .int) :: ([.fieldLink RX2 15 "LockDesk$Queue" "count" "I", .fieldLink RX2 9 "LockDesk$Queue" "order" "[I"] ++ wsX20)
def wsX2_contains : List Cond := .code yX2_contains cX2_contains 2 (some .boolean) :: ([.methodLink RX2 35 yX2_placeOf, .instanceMethod yX2_placeOf, .selects RX2 yX2_placeOf yX2_placeOf, .initialized RX2, .code yX2_placeOf cX2_placeOf 3 (some .int), .fieldLink RX2 15 "LockDesk$Queue" "count" "I", .fieldLink RX2 9 "LockDesk$Queue" "order" "[I"] ++ wsX20)
def wsX2_append : List Cond := .code yX2_append cX2_append 2 none :: ([.fieldLink RX2 15 "LockDesk$Queue" "count" "I", .fieldLink RX2 9 "LockDesk$Queue" "order" "[I"] ++ wsX20)
def wsX2_addForTable : List Cond := .code yX2_addForTable cX2_addForTable 5 none :: ([.fieldLink RX2 19 "LockDesk$Queue" "awaited" "[I", .fieldLink RX2 22 "LockDesk$Queue" "tables" "[I", .fieldLink RX2 25 "LockDesk$Queue" "modes" "[I", .fieldLink RX2 28 "LockDesk$Queue" "levels" "[I", .fieldLink RX2 31 "LockDesk$Queue" "dropped" "[Z", .methodLink RX2 39 yX2_append, .instanceMethod yX2_append, .selects RX2 yX2_append yX2_append, .initialized RX2, .code yX2_append cX2_append 2 none, .fieldLink RX2 15 "LockDesk$Queue" "count" "I", .fieldLink RX2 9 "LockDesk$Queue" "order" "[I"] ++ wsX20)
def wsX2_addForNumber : List Cond := .code yX2_addForNumber cX2_addForNumber 3 none :: ([.fieldLink RX2 19 "LockDesk$Queue" "awaited" "[I", .methodLink RX2 39 yX2_append, .instanceMethod yX2_append, .selects RX2 yX2_append yX2_append, .initialized RX2, .code yX2_append cX2_append 2 none, .fieldLink RX2 15 "LockDesk$Queue" "count" "I", .fieldLink RX2 9 "LockDesk$Queue" "order" "[I"] ++ wsX20)
def wsX2_remove : List Cond := .code yX2_remove cX2_remove 4 none :: ([.fieldLink RX2 15 "LockDesk$Queue" "count" "I", .fieldLink RX2 9 "LockDesk$Queue" "order" "[I"] ++ wsX20)
def wsX2_wants : List Cond := .code yX2_wants cX2_wants 3 (some .boolean) :: ([.fieldLink RX2 19 "LockDesk$Queue" "awaited" "[I", .fieldLink RX2 22 "LockDesk$Queue" "tables" "[I", .fieldLink RX2 31 "LockDesk$Queue" "dropped" "[Z"] ++ wsX20)
def wsX2_earlierAgainst : List Cond := .code yX2_earlierAgainst cX2_earlierAgainst 7 (some .int) :: ([.fieldLink RX2 15 "LockDesk$Queue" "count" "I", .fieldLink RX2 9 "LockDesk$Queue" "order" "[I", .fieldLink RX2 25 "LockDesk$Queue" "modes" "[I", .methodLink RX2 43 yX2_wants, .instanceMethod yX2_wants, .selects RX2 yX2_wants yX2_wants, .initialized RX2, .code yX2_wants cX2_wants 3 (some .boolean), .fieldLink RX2 19 "LockDesk$Queue" "awaited" "[I", .fieldLink RX2 22 "LockDesk$Queue" "tables" "[I", .fieldLink RX2 31 "LockDesk$Queue" "dropped" "[Z", .static yX4_conflict, .initialized RX4, .code yX4_conflict cX4_conflict 2 (some .boolean), .fieldLink RX4 172 "LockDesk" "CONFLICTS" "[I", .methodLink RX4 169 yX4_has, .static yX4_has, .code yX4_has cX4_has 2 (some .boolean)] ++ wsX20)
def wsX2_markDropped : List Cond := .code yX2_markDropped cX2_markDropped 3 none :: ([.fieldLink RX2 15 "LockDesk$Queue" "count" "I", .fieldLink RX2 9 "LockDesk$Queue" "order" "[I", .fieldLink RX2 31 "LockDesk$Queue" "dropped" "[Z", .methodLink RX2 43 yX2_wants, .instanceMethod yX2_wants, .selects RX2 yX2_wants yX2_wants, .initialized RX2, .code yX2_wants cX2_wants 3 (some .boolean), .fieldLink RX2 19 "LockDesk$Queue" "awaited" "[I", .fieldLink RX2 22 "LockDesk$Queue" "tables" "[I"] ++ wsX20)
def wsX2_lower : List Cond := .code yX2_lower cX2_lower 3 none :: ([.fieldLink RX2 28 "LockDesk$Queue" "levels" "[I"] ++ wsX20)
def wsX2_isForNumber : List Cond := .code yX2_isForNumber cX2_isForNumber 2 (some .boolean) :: ([.fieldLink RX2 19 "LockDesk$Queue" "awaited" "[I"] ++ wsX20)
def wsX2_numberOf : List Cond := .code yX2_numberOf cX2_numberOf 2 (some .int) :: ([.fieldLink RX2 19 "LockDesk$Queue" "awaited" "[I"] ++ wsX20)
def wsX2_tableOf : List Cond := .code yX2_tableOf cX2_tableOf 2 (some .int) :: ([.fieldLink RX2 22 "LockDesk$Queue" "tables" "[I"] ++ wsX20)
def wsX2_modeOf : List Cond := .code yX2_modeOf cX2_modeOf 2 (some .int) :: ([.fieldLink RX2 25 "LockDesk$Queue" "modes" "[I"] ++ wsX20)
def wsX2_levelOf : List Cond := .code yX2_levelOf cX2_levelOf 2 (some .int) :: ([.fieldLink RX2 28 "LockDesk$Queue" "levels" "[I"] ++ wsX20)
def wsX2_isDropped : List Cond := .code yX2_isDropped cX2_isDropped 2 (some .boolean) :: ([.fieldLink RX2 31 "LockDesk$Queue" "dropped" "[Z"] ++ wsX20)
def wsX3_init : List Cond := .code yX3_init cX3_init 1 none :: ([.methodLink RX3 3 objectInit, .instanceMethod objectInit, .code objectInit ⟨#[0xb1]⟩ 1 none, .arrayClass .int, .fieldLink RX3 9 "LockDesk$RowLocks" "lockers" "[I", .fieldLink RX3 15 "LockDesk$RowLocks" "sessions" "[I", .fieldLink RX3 18 "LockDesk$RowLocks" "rows" "[I", .fieldLink RX3 21 "LockDesk$RowLocks" "strengths" "[I", .fieldLink RX3 24 "LockDesk$RowLocks" "count" "I"] ++ wsX30)
def wsX3_suffices : List Cond := .code yX3_suffices cX3_suffices 5 (some .boolean) :: ([.fieldLink RX3 24 "LockDesk$RowLocks" "count" "I", .fieldLink RX3 18 "LockDesk$RowLocks" "rows" "[I", .fieldLink RX3 15 "LockDesk$RowLocks" "sessions" "[I", .fieldLink RX3 21 "LockDesk$RowLocks" "strengths" "[I"] ++ wsX30)
def wsX3_leastInConflict : List Cond := .code yX3_leastInConflict cX3_leastInConflict 6 (some .int) :: ([.fieldLink RX3 24 "LockDesk$RowLocks" "count" "I", .fieldLink RX3 21 "LockDesk$RowLocks" "strengths" "[I", .fieldLink RX3 18 "LockDesk$RowLocks" "rows" "[I", .fieldLink RX3 15 "LockDesk$RowLocks" "sessions" "[I", .fieldLink RX3 9 "LockDesk$RowLocks" "lockers" "[I"] ++ wsX30)
def wsX3_copy : List Cond := .code yX3_copy cX3_copy 3 none :: ([.fieldLink RX3 9 "LockDesk$RowLocks" "lockers" "[I", .fieldLink RX3 15 "LockDesk$RowLocks" "sessions" "[I", .fieldLink RX3 18 "LockDesk$RowLocks" "rows" "[I", .fieldLink RX3 21 "LockDesk$RowLocks" "strengths" "[I"] ++ wsX30)
def wsX3_note : List Cond := .code yX3_note cX3_note 7 (some .boolean) :: ([.fieldLink RX3 24 "LockDesk$RowLocks" "count" "I", .fieldLink RX3 9 "LockDesk$RowLocks" "lockers" "[I", .fieldLink RX3 18 "LockDesk$RowLocks" "rows" "[I", .fieldLink RX3 21 "LockDesk$RowLocks" "strengths" "[I", .fieldLink RX3 15 "LockDesk$RowLocks" "sessions" "[I", .methodLink RX3 28 yX3_copy, .instanceMethod yX3_copy, .selects RX3 yX3_copy yX3_copy, .initialized RX3, .code yX3_copy cX3_copy 3 none] ++ wsX30)
def wsX3_forgetWhere : List Cond := .code yX3_forgetWhere cX3_forgetWhere 5 none :: ([.fieldLink RX3 24 "LockDesk$RowLocks" "count" "I", .methodLink RX3 28 yX3_copy, .instanceMethod yX3_copy, .selects RX3 yX3_copy yX3_copy, .initialized RX3, .code yX3_copy cX3_copy 3 none, .fieldLink RX3 9 "LockDesk$RowLocks" "lockers" "[I", .fieldLink RX3 15 "LockDesk$RowLocks" "sessions" "[I", .fieldLink RX3 18 "LockDesk$RowLocks" "rows" "[I", .fieldLink RX3 21 "LockDesk$RowLocks" "strengths" "[I"] ++ wsX30)
def wsX3_forgetNumber : List Cond := .code yX3_forgetNumber cX3_forgetNumber 2 none :: ([.fieldLink RX3 9 "LockDesk$RowLocks" "lockers" "[I", .methodLink RX3 32 yX3_forgetWhere, .instanceMethod yX3_forgetWhere, .selects RX3 yX3_forgetWhere yX3_forgetWhere, .initialized RX3, .code yX3_forgetWhere cX3_forgetWhere 5 none, .fieldLink RX3 24 "LockDesk$RowLocks" "count" "I", .methodLink RX3 28 yX3_copy, .instanceMethod yX3_copy, .selects RX3 yX3_copy yX3_copy, .code yX3_copy cX3_copy 3 none, .fieldLink RX3 15 "LockDesk$RowLocks" "sessions" "[I", .fieldLink RX3 18 "LockDesk$RowLocks" "rows" "[I", .fieldLink RX3 21 "LockDesk$RowLocks" "strengths" "[I"] ++ wsX30)
def wsX3_forgetRow : List Cond := .code yX3_forgetRow cX3_forgetRow 2 none :: ([.fieldLink RX3 18 "LockDesk$RowLocks" "rows" "[I", .methodLink RX3 32 yX3_forgetWhere, .instanceMethod yX3_forgetWhere, .selects RX3 yX3_forgetWhere yX3_forgetWhere, .initialized RX3, .code yX3_forgetWhere cX3_forgetWhere 5 none, .fieldLink RX3 24 "LockDesk$RowLocks" "count" "I", .methodLink RX3 28 yX3_copy, .instanceMethod yX3_copy, .selects RX3 yX3_copy yX3_copy, .code yX3_copy cX3_copy 3 none, .fieldLink RX3 9 "LockDesk$RowLocks" "lockers" "[I", .fieldLink RX3 15 "LockDesk$RowLocks" "sessions" "[I", .fieldLink RX3 21 "LockDesk$RowLocks" "strengths" "[I"] ++ wsX30)
def wsX3_signedNumberAt : List Cond := .code yX3_signedNumberAt cX3_signedNumberAt 5 (some .int) :: ([.fieldLink RX3 24 "LockDesk$RowLocks" "count" "I", .fieldLink RX3 18 "LockDesk$RowLocks" "rows" "[I", .fieldLink RX3 21 "LockDesk$RowLocks" "strengths" "[I", .fieldLink RX3 9 "LockDesk$RowLocks" "lockers" "[I"] ++ wsX30)
def wsX4_init_r1 : List Cond := [Cond.methodLink RX4 1 objectInit, Cond.instanceMethod objectInit, Cond.code objectInit ⟨#[0xb1]⟩ 1 none, Cond.classLink RX4 7 RX1, Cond.instantiable RX1 2, Cond.initialized RX1, Cond.fieldLink RX4 10 "LockDesk" "numbers" "LLockDesk$Numbers;", Cond.classLink RX4 16 RX0, Cond.instantiable RX0 1, Cond.initialized RX0, Cond.fieldLink RX4 19 "LockDesk" "holdings" "LLockDesk$Holdings;", Cond.classLink RX4 23 RX3, Cond.instantiable RX3 5, Cond.initialized RX3, Cond.fieldLink RX4 26 "LockDesk" "rowLocks" "LLockDesk$RowLocks;", Cond.classLink RX4 30 RX2, Cond.instantiable RX2 7, Cond.initialized RX2, Cond.fieldLink RX4 33 "LockDesk" "queue" "LLockDesk$Queue;", Cond.instanceMethod yX1_init, Cond.code yX1_init cX1_init 1 none, Cond.methodLink RX1 3 objectInit, Cond.arrayClass .byte, Cond.fieldLink RX1 9 "LockDesk$Numbers" "runners" "[B"]
def wsX4_init_r2 : List Cond := [Cond.fieldLink RX1 15 "LockDesk$Numbers" "given" "I", Cond.methodLink RX4 18 yX0_init, Cond.instanceMethod yX0_init, Cond.code yX0_init cX0_init 1 none, Cond.methodLink RX0 3 objectInit, Cond.fieldLink RX0 11 "LockDesk$Holdings" "levels" "[B", Cond.methodLink RX0 15 yJ7_fill_031fb, Cond.static yJ7_fill_031fb, Cond.initialized RJ7, Cond.code yJ7_fill_031fb cJ7_fill_031fb 4 none, Cond.instanceMethod yX3_init, Cond.code yX3_init cX3_init 1 none, Cond.methodLink RX3 3 objectInit, Cond.arrayClass .int, Cond.fieldLink RX3 9 "LockDesk$RowLocks" "lockers" "[I", Cond.fieldLink RX3 15 "LockDesk$RowLocks" "sessions" "[I", Cond.fieldLink RX3 18 "LockDesk$RowLocks" "rows" "[I", Cond.fieldLink RX3 21 "LockDesk$RowLocks" "strengths" "[I", Cond.fieldLink RX3 24 "LockDesk$RowLocks" "count" "I", Cond.instanceMethod yX2_init, Cond.code yX2_init cX2_init 1 none, Cond.methodLink RX2 3 objectInit, Cond.fieldLink RX2 9 "LockDesk$Queue" "order" "[I", Cond.fieldLink RX2 15 "LockDesk$Queue" "count" "I"]
def wsX4_init_r3 : List Cond := [Cond.fieldLink RX2 19 "LockDesk$Queue" "awaited" "[I", Cond.fieldLink RX2 22 "LockDesk$Queue" "tables" "[I", Cond.fieldLink RX2 25 "LockDesk$Queue" "modes" "[I", Cond.fieldLink RX2 28 "LockDesk$Queue" "levels" "[I", Cond.arrayClass .boolean, Cond.fieldLink RX2 31 "LockDesk$Queue" "dropped" "[Z"]
def wsX4_init : List Cond := .code yX4_init cX4_init 1 none :: ((wsX4_init_r1 ++ (wsX4_init_r2 ++ wsX4_init_r3)) ++ wsX10 ++ wsX40 ++ wsX00 ++ wsX30 ++ wsX20)
def wsX4_isSession : List Cond := .code yX4_isSession cX4_isSession 1 (some .boolean) :: ([])
def wsX4_number : List Cond := .code yX4_number cX4_number 2 (some .int) :: ([.fieldLink RX4 10 "LockDesk" "numbers" "LLockDesk$Numbers;", .methodLink RX4 37 yX4_isSession, .static yX4_isSession, .initialized RX4, .code yX4_isSession cX4_isSession 1 (some .boolean), .methodLink RX4 41 yX1_give, .instanceMethod yX1_give, .selects RX1 yX1_give yX1_give, .initialized RX1, .code yX1_give cX1_give 2 (some .int), .fieldLink RX1 15 "LockDesk$Numbers" "given" "I", .fieldLink RX1 9 "LockDesk$Numbers" "runners" "[B"] ++ wsX40 ++ wsX10)
def wsX4_over_r1 : List Cond := [Cond.fieldLink RX4 10 "LockDesk" "numbers" "LLockDesk$Numbers;", Cond.fieldLink RX4 26 "LockDesk" "rowLocks" "LLockDesk$RowLocks;", Cond.methodLink RX4 45 yX1_runnerOf, Cond.instanceMethod yX1_runnerOf, Cond.selects RX1 yX1_runnerOf yX1_runnerOf, Cond.initialized RX1, Cond.code yX1_runnerOf cX1_runnerOf 2 (some .int), Cond.fieldLink RX1 9 "LockDesk$Numbers" "runners" "[B", Cond.methodLink RX1 19 yX1_wasGiven, Cond.instanceMethod yX1_wasGiven, Cond.selects RX1 yX1_wasGiven yX1_wasGiven, Cond.code yX1_wasGiven cX1_wasGiven 2 (some .boolean), Cond.fieldLink RX1 15 "LockDesk$Numbers" "given" "I", Cond.methodLink RX4 48 yX1_stop, Cond.instanceMethod yX1_stop, Cond.selects RX1 yX1_stop yX1_stop, Cond.code yX1_stop cX1_stop 2 none, Cond.methodLink RX4 52 yX3_forgetNumber, Cond.instanceMethod yX3_forgetNumber, Cond.selects RX3 yX3_forgetNumber yX3_forgetNumber, Cond.initialized RX3, Cond.code yX3_forgetNumber cX3_forgetNumber 2 none, Cond.fieldLink RX3 9 "LockDesk$RowLocks" "lockers" "[I", Cond.methodLink RX3 32 yX3_forgetWhere]
def wsX4_over_r2 : List Cond := [Cond.instanceMethod yX3_forgetWhere, Cond.selects RX3 yX3_forgetWhere yX3_forgetWhere, Cond.code yX3_forgetWhere cX3_forgetWhere 5 none, Cond.fieldLink RX3 24 "LockDesk$RowLocks" "count" "I", Cond.methodLink RX3 28 yX3_copy, Cond.instanceMethod yX3_copy, Cond.selects RX3 yX3_copy yX3_copy, Cond.code yX3_copy cX3_copy 3 none, Cond.fieldLink RX3 15 "LockDesk$RowLocks" "sessions" "[I", Cond.fieldLink RX3 18 "LockDesk$RowLocks" "rows" "[I", Cond.fieldLink RX3 21 "LockDesk$RowLocks" "strengths" "[I"]
def wsX4_over : List Cond := .code yX4_over cX4_over 2 (some .boolean) :: ((wsX4_over_r1 ++ wsX4_over_r2) ++ wsX40 ++ wsX10 ++ wsX30)
def wsX4_isLevel : List Cond := .code yX4_isLevel cX4_isLevel 1 (some .boolean) :: ([])
def wsX4_isTable : List Cond := .code yX4_isTable cX4_isTable 1 (some .boolean) :: ([])
def wsX4_isMode : List Cond := .code yX4_isMode cX4_isMode 1 (some .boolean) :: ([])
def wsX4_inTheWay_r1 : List Cond := [Cond.fieldLink RX4 19 "LockDesk" "holdings" "LLockDesk$Holdings;", Cond.fieldLink RX4 33 "LockDesk" "queue" "LLockDesk$Queue;", Cond.methodLink RX4 163 yX0_standAgainst, Cond.instanceMethod yX0_standAgainst, Cond.selects RX0 yX0_standAgainst yX0_standAgainst, Cond.initialized RX0, Cond.code yX0_standAgainst cX0_standAgainst 5 (some .boolean), Cond.fieldLink RX0 11 "LockDesk$Holdings" "levels" "[B", Cond.static yX4_conflict, Cond.initialized RX4, Cond.code yX4_conflict cX4_conflict 2 (some .boolean), Cond.fieldLink RX4 172 "LockDesk" "CONFLICTS" "[I", Cond.methodLink RX4 169 yX4_has, Cond.static yX4_has, Cond.code yX4_has cX4_has 2 (some .boolean), Cond.methodLink RX0 21 yX0_cell, Cond.static yX0_cell, Cond.code yX0_cell cX0_cell 3 (some .int), Cond.methodLink RX4 166 yX2_earlierAgainst, Cond.instanceMethod yX2_earlierAgainst, Cond.selects RX2 yX2_earlierAgainst yX2_earlierAgainst, Cond.initialized RX2, Cond.code yX2_earlierAgainst cX2_earlierAgainst 7 (some .int), Cond.fieldLink RX2 15 "LockDesk$Queue" "count" "I"]
def wsX4_inTheWay_r2 : List Cond := [Cond.fieldLink RX2 9 "LockDesk$Queue" "order" "[I", Cond.fieldLink RX2 25 "LockDesk$Queue" "modes" "[I", Cond.methodLink RX2 43 yX2_wants, Cond.instanceMethod yX2_wants, Cond.selects RX2 yX2_wants yX2_wants, Cond.code yX2_wants cX2_wants 3 (some .boolean), Cond.fieldLink RX2 19 "LockDesk$Queue" "awaited" "[I", Cond.fieldLink RX2 22 "LockDesk$Queue" "tables" "[I", Cond.fieldLink RX2 31 "LockDesk$Queue" "dropped" "[Z"]
def wsX4_inTheWay : List Cond := .code yX4_inTheWay cX4_inTheWay 7 (some .int) :: ((wsX4_inTheWay_r1 ++ wsX4_inTheWay_r2) ++ wsX40 ++ wsX00 ++ wsX20)
def wsX4_waitsOn_r1 : List Cond := [Cond.fieldLink RX4 33 "LockDesk" "queue" "LLockDesk$Queue;", Cond.fieldLink RX4 10 "LockDesk" "numbers" "LLockDesk$Numbers;", Cond.methodLink RX4 160 yX2_placeOf, Cond.instanceMethod yX2_placeOf, Cond.selects RX2 yX2_placeOf yX2_placeOf, Cond.initialized RX2, Cond.code yX2_placeOf cX2_placeOf 3 (some .int), Cond.fieldLink RX2 15 "LockDesk$Queue" "count" "I", Cond.fieldLink RX2 9 "LockDesk$Queue" "order" "[I", Cond.methodLink RX4 143 yX2_isForNumber, Cond.instanceMethod yX2_isForNumber, Cond.selects RX2 yX2_isForNumber yX2_isForNumber, Cond.code yX2_isForNumber cX2_isForNumber 2 (some .boolean), Cond.fieldLink RX2 19 "LockDesk$Queue" "awaited" "[I", Cond.methodLink RX4 146 yX2_numberOf, Cond.instanceMethod yX2_numberOf, Cond.selects RX2 yX2_numberOf yX2_numberOf, Cond.code yX2_numberOf cX2_numberOf 2 (some .int), Cond.methodLink RX4 45 yX1_runnerOf, Cond.instanceMethod yX1_runnerOf, Cond.selects RX1 yX1_runnerOf yX1_runnerOf, Cond.initialized RX1, Cond.code yX1_runnerOf cX1_runnerOf 2 (some .int), Cond.fieldLink RX1 9 "LockDesk$Numbers" "runners" "[B"]
def wsX4_waitsOn_r2 : List Cond := [Cond.methodLink RX1 19 yX1_wasGiven, Cond.instanceMethod yX1_wasGiven, Cond.selects RX1 yX1_wasGiven yX1_wasGiven, Cond.code yX1_wasGiven cX1_wasGiven 2 (some .boolean), Cond.fieldLink RX1 15 "LockDesk$Numbers" "given" "I", Cond.methodLink RX4 155 yX2_isDropped, Cond.instanceMethod yX2_isDropped, Cond.selects RX2 yX2_isDropped yX2_isDropped, Cond.code yX2_isDropped cX2_isDropped 2 (some .boolean), Cond.fieldLink RX2 31 "LockDesk$Queue" "dropped" "[Z", Cond.methodLink RX4 149 yX2_tableOf, Cond.instanceMethod yX2_tableOf, Cond.selects RX2 yX2_tableOf yX2_tableOf, Cond.code yX2_tableOf cX2_tableOf 2 (some .int), Cond.fieldLink RX2 22 "LockDesk$Queue" "tables" "[I", Cond.methodLink RX4 152 yX2_modeOf, Cond.instanceMethod yX2_modeOf, Cond.selects RX2 yX2_modeOf yX2_modeOf, Cond.code yX2_modeOf cX2_modeOf 2 (some .int), Cond.fieldLink RX2 25 "LockDesk$Queue" "modes" "[I", Cond.methodLink RX4 75 yX4_inTheWay, Cond.instanceMethod yX4_inTheWay, Cond.selects RX4 yX4_inTheWay yX4_inTheWay, Cond.initialized RX4]
def wsX4_waitsOn_r3 : List Cond := [Cond.code yX4_inTheWay cX4_inTheWay 7 (some .int), Cond.fieldLink RX4 19 "LockDesk" "holdings" "LLockDesk$Holdings;", Cond.methodLink RX4 163 yX0_standAgainst, Cond.instanceMethod yX0_standAgainst, Cond.selects RX0 yX0_standAgainst yX0_standAgainst, Cond.initialized RX0, Cond.code yX0_standAgainst cX0_standAgainst 5 (some .boolean), Cond.fieldLink RX0 11 "LockDesk$Holdings" "levels" "[B", Cond.static yX4_conflict, Cond.code yX4_conflict cX4_conflict 2 (some .boolean), Cond.fieldLink RX4 172 "LockDesk" "CONFLICTS" "[I", Cond.methodLink RX4 169 yX4_has, Cond.static yX4_has, Cond.code yX4_has cX4_has 2 (some .boolean), Cond.methodLink RX0 21 yX0_cell, Cond.static yX0_cell, Cond.code yX0_cell cX0_cell 3 (some .int), Cond.methodLink RX4 166 yX2_earlierAgainst, Cond.instanceMethod yX2_earlierAgainst, Cond.selects RX2 yX2_earlierAgainst yX2_earlierAgainst, Cond.code yX2_earlierAgainst cX2_earlierAgainst 7 (some .int), Cond.methodLink RX2 43 yX2_wants, Cond.instanceMethod yX2_wants, Cond.selects RX2 yX2_wants yX2_wants]
def wsX4_waitsOn_r4 : List Cond := [Cond.code yX2_wants cX2_wants 3 (some .boolean)]
def wsX4_waitsOn : List Cond := .code yX4_waitsOn cX4_waitsOn 4 (some .int) :: ((wsX4_waitsOn_r1 ++ (wsX4_waitsOn_r2 ++ (wsX4_waitsOn_r3 ++ wsX4_waitsOn_r4))) ++ wsX40 ++ wsX20 ++ wsX10 ++ wsX00)
def wsX4_closesRing_r1 : List Cond := [Cond.methodLink RX4 169 yX4_has, Cond.static yX4_has, Cond.initialized RX4, Cond.code yX4_has cX4_has 2 (some .boolean), Cond.methodLink RX4 114 yX4_waitsOn, Cond.instanceMethod yX4_waitsOn, Cond.selects RX4 yX4_waitsOn yX4_waitsOn, Cond.code yX4_waitsOn cX4_waitsOn 4 (some .int), Cond.fieldLink RX4 33 "LockDesk" "queue" "LLockDesk$Queue;", Cond.fieldLink RX4 10 "LockDesk" "numbers" "LLockDesk$Numbers;", Cond.methodLink RX4 160 yX2_placeOf, Cond.instanceMethod yX2_placeOf, Cond.selects RX2 yX2_placeOf yX2_placeOf, Cond.initialized RX2, Cond.code yX2_placeOf cX2_placeOf 3 (some .int), Cond.fieldLink RX2 15 "LockDesk$Queue" "count" "I", Cond.fieldLink RX2 9 "LockDesk$Queue" "order" "[I", Cond.methodLink RX4 143 yX2_isForNumber, Cond.instanceMethod yX2_isForNumber, Cond.selects RX2 yX2_isForNumber yX2_isForNumber, Cond.code yX2_isForNumber cX2_isForNumber 2 (some .boolean), Cond.fieldLink RX2 19 "LockDesk$Queue" "awaited" "[I", Cond.methodLink RX4 146 yX2_numberOf, Cond.instanceMethod yX2_numberOf]
def wsX4_closesRing_r2 : List Cond := [Cond.selects RX2 yX2_numberOf yX2_numberOf, Cond.code yX2_numberOf cX2_numberOf 2 (some .int), Cond.methodLink RX4 45 yX1_runnerOf, Cond.instanceMethod yX1_runnerOf, Cond.selects RX1 yX1_runnerOf yX1_runnerOf, Cond.initialized RX1, Cond.code yX1_runnerOf cX1_runnerOf 2 (some .int), Cond.fieldLink RX1 9 "LockDesk$Numbers" "runners" "[B", Cond.methodLink RX1 19 yX1_wasGiven, Cond.instanceMethod yX1_wasGiven, Cond.selects RX1 yX1_wasGiven yX1_wasGiven, Cond.code yX1_wasGiven cX1_wasGiven 2 (some .boolean), Cond.fieldLink RX1 15 "LockDesk$Numbers" "given" "I", Cond.methodLink RX4 155 yX2_isDropped, Cond.instanceMethod yX2_isDropped, Cond.selects RX2 yX2_isDropped yX2_isDropped, Cond.code yX2_isDropped cX2_isDropped 2 (some .boolean), Cond.fieldLink RX2 31 "LockDesk$Queue" "dropped" "[Z", Cond.methodLink RX4 149 yX2_tableOf, Cond.instanceMethod yX2_tableOf, Cond.selects RX2 yX2_tableOf yX2_tableOf, Cond.code yX2_tableOf cX2_tableOf 2 (some .int), Cond.fieldLink RX2 22 "LockDesk$Queue" "tables" "[I", Cond.methodLink RX4 152 yX2_modeOf]
def wsX4_closesRing_r3 : List Cond := [Cond.instanceMethod yX2_modeOf, Cond.selects RX2 yX2_modeOf yX2_modeOf, Cond.code yX2_modeOf cX2_modeOf 2 (some .int), Cond.fieldLink RX2 25 "LockDesk$Queue" "modes" "[I", Cond.methodLink RX4 75 yX4_inTheWay, Cond.instanceMethod yX4_inTheWay, Cond.selects RX4 yX4_inTheWay yX4_inTheWay, Cond.code yX4_inTheWay cX4_inTheWay 7 (some .int), Cond.fieldLink RX4 19 "LockDesk" "holdings" "LLockDesk$Holdings;", Cond.methodLink RX4 163 yX0_standAgainst, Cond.instanceMethod yX0_standAgainst, Cond.selects RX0 yX0_standAgainst yX0_standAgainst, Cond.initialized RX0, Cond.code yX0_standAgainst cX0_standAgainst 5 (some .boolean), Cond.fieldLink RX0 11 "LockDesk$Holdings" "levels" "[B", Cond.static yX4_conflict, Cond.code yX4_conflict cX4_conflict 2 (some .boolean), Cond.fieldLink RX4 172 "LockDesk" "CONFLICTS" "[I", Cond.methodLink RX0 21 yX0_cell, Cond.static yX0_cell, Cond.code yX0_cell cX0_cell 3 (some .int), Cond.methodLink RX4 166 yX2_earlierAgainst, Cond.instanceMethod yX2_earlierAgainst, Cond.selects RX2 yX2_earlierAgainst yX2_earlierAgainst]
def wsX4_closesRing_r4 : List Cond := [Cond.code yX2_earlierAgainst cX2_earlierAgainst 7 (some .int), Cond.methodLink RX2 43 yX2_wants, Cond.instanceMethod yX2_wants, Cond.selects RX2 yX2_wants yX2_wants, Cond.code yX2_wants cX2_wants 3 (some .boolean)]
def wsX4_closesRing : List Cond := .code yX4_closesRing cX4_closesRing 6 (some .boolean) :: ((wsX4_closesRing_r1 ++ (wsX4_closesRing_r2 ++ (wsX4_closesRing_r3 ++ wsX4_closesRing_r4))) ++ wsX40 ++ wsX20 ++ wsX10 ++ wsX00)
def wsX4_ask_r1 : List Cond := [Cond.fieldLink RX4 33 "LockDesk" "queue" "LLockDesk$Queue;", Cond.fieldLink RX4 19 "LockDesk" "holdings" "LLockDesk$Holdings;", Cond.methodLink RX4 37 yX4_isSession, Cond.static yX4_isSession, Cond.initialized RX4, Cond.code yX4_isSession cX4_isSession 1 (some .boolean), Cond.methodLink RX4 55 yX4_isLevel, Cond.static yX4_isLevel, Cond.code yX4_isLevel cX4_isLevel 1 (some .boolean), Cond.methodLink RX4 58 yX4_isTable, Cond.static yX4_isTable, Cond.code yX4_isTable cX4_isTable 1 (some .boolean), Cond.methodLink RX4 61 yX4_isMode, Cond.static yX4_isMode, Cond.code yX4_isMode cX4_isMode 1 (some .boolean), Cond.methodLink RX4 64 yX2_contains, Cond.instanceMethod yX2_contains, Cond.selects RX2 yX2_contains yX2_contains, Cond.initialized RX2, Cond.code yX2_contains cX2_contains 2 (some .boolean), Cond.methodLink RX2 35 yX2_placeOf, Cond.instanceMethod yX2_placeOf, Cond.selects RX2 yX2_placeOf yX2_placeOf, Cond.code yX2_placeOf cX2_placeOf 3 (some .int)]
def wsX4_ask_r2 : List Cond := [Cond.fieldLink RX2 15 "LockDesk$Queue" "count" "I", Cond.fieldLink RX2 9 "LockDesk$Queue" "order" "[I", Cond.methodLink RX4 67 yX0_levelOf, Cond.instanceMethod yX0_levelOf, Cond.selects RX0 yX0_levelOf yX0_levelOf, Cond.initialized RX0, Cond.code yX0_levelOf cX0_levelOf 4 (some .int), Cond.fieldLink RX0 11 "LockDesk$Holdings" "levels" "[B", Cond.methodLink RX0 21 yX0_cell, Cond.static yX0_cell, Cond.code yX0_cell cX0_cell 3 (some .int), Cond.methodLink RX4 71 yX2_size, Cond.instanceMethod yX2_size, Cond.selects RX2 yX2_size yX2_size, Cond.code yX2_size cX2_size 1 (some .int), Cond.methodLink RX4 75 yX4_inTheWay, Cond.instanceMethod yX4_inTheWay, Cond.selects RX4 yX4_inTheWay yX4_inTheWay, Cond.code yX4_inTheWay cX4_inTheWay 7 (some .int), Cond.methodLink RX4 163 yX0_standAgainst, Cond.instanceMethod yX0_standAgainst, Cond.selects RX0 yX0_standAgainst yX0_standAgainst, Cond.code yX0_standAgainst cX0_standAgainst 5 (some .boolean), Cond.static yX4_conflict]
def wsX4_ask_r3 : List Cond := [Cond.code yX4_conflict cX4_conflict 2 (some .boolean), Cond.fieldLink RX4 172 "LockDesk" "CONFLICTS" "[I", Cond.methodLink RX4 169 yX4_has, Cond.static yX4_has, Cond.code yX4_has cX4_has 2 (some .boolean), Cond.methodLink RX4 166 yX2_earlierAgainst, Cond.instanceMethod yX2_earlierAgainst, Cond.selects RX2 yX2_earlierAgainst yX2_earlierAgainst, Cond.code yX2_earlierAgainst cX2_earlierAgainst 7 (some .int), Cond.fieldLink RX2 25 "LockDesk$Queue" "modes" "[I", Cond.methodLink RX2 43 yX2_wants, Cond.instanceMethod yX2_wants, Cond.selects RX2 yX2_wants yX2_wants, Cond.code yX2_wants cX2_wants 3 (some .boolean), Cond.fieldLink RX2 19 "LockDesk$Queue" "awaited" "[I", Cond.fieldLink RX2 22 "LockDesk$Queue" "tables" "[I", Cond.fieldLink RX2 31 "LockDesk$Queue" "dropped" "[Z", Cond.methodLink RX4 79 yX0_take, Cond.instanceMethod yX0_take, Cond.selects RX0 yX0_take yX0_take, Cond.code yX0_take cX0_take 5 none, Cond.methodLink RX4 83 yX4_closesRing, Cond.instanceMethod yX4_closesRing, Cond.selects RX4 yX4_closesRing yX4_closesRing]
def wsX4_ask_r4 : List Cond := [Cond.code yX4_closesRing cX4_closesRing 6 (some .boolean), Cond.methodLink RX4 114 yX4_waitsOn, Cond.instanceMethod yX4_waitsOn, Cond.selects RX4 yX4_waitsOn yX4_waitsOn, Cond.code yX4_waitsOn cX4_waitsOn 4 (some .int), Cond.fieldLink RX4 10 "LockDesk" "numbers" "LLockDesk$Numbers;", Cond.methodLink RX4 160 yX2_placeOf, Cond.methodLink RX4 143 yX2_isForNumber, Cond.instanceMethod yX2_isForNumber, Cond.selects RX2 yX2_isForNumber yX2_isForNumber, Cond.code yX2_isForNumber cX2_isForNumber 2 (some .boolean), Cond.methodLink RX4 146 yX2_numberOf, Cond.instanceMethod yX2_numberOf, Cond.selects RX2 yX2_numberOf yX2_numberOf, Cond.code yX2_numberOf cX2_numberOf 2 (some .int), Cond.methodLink RX4 45 yX1_runnerOf, Cond.instanceMethod yX1_runnerOf, Cond.selects RX1 yX1_runnerOf yX1_runnerOf, Cond.initialized RX1, Cond.code yX1_runnerOf cX1_runnerOf 2 (some .int), Cond.fieldLink RX1 9 "LockDesk$Numbers" "runners" "[B", Cond.methodLink RX1 19 yX1_wasGiven, Cond.instanceMethod yX1_wasGiven, Cond.selects RX1 yX1_wasGiven yX1_wasGiven]
def wsX4_ask_r5 : List Cond := [Cond.code yX1_wasGiven cX1_wasGiven 2 (some .boolean), Cond.fieldLink RX1 15 "LockDesk$Numbers" "given" "I", Cond.methodLink RX4 155 yX2_isDropped, Cond.instanceMethod yX2_isDropped, Cond.selects RX2 yX2_isDropped yX2_isDropped, Cond.code yX2_isDropped cX2_isDropped 2 (some .boolean), Cond.methodLink RX4 149 yX2_tableOf, Cond.instanceMethod yX2_tableOf, Cond.selects RX2 yX2_tableOf yX2_tableOf, Cond.code yX2_tableOf cX2_tableOf 2 (some .int), Cond.methodLink RX4 152 yX2_modeOf, Cond.instanceMethod yX2_modeOf, Cond.selects RX2 yX2_modeOf yX2_modeOf, Cond.code yX2_modeOf cX2_modeOf 2 (some .int), Cond.methodLink RX4 87 yX2_addForTable, Cond.instanceMethod yX2_addForTable, Cond.selects RX2 yX2_addForTable yX2_addForTable, Cond.code yX2_addForTable cX2_addForTable 5 none, Cond.fieldLink RX2 28 "LockDesk$Queue" "levels" "[I", Cond.methodLink RX2 39 yX2_append, Cond.instanceMethod yX2_append, Cond.selects RX2 yX2_append yX2_append, Cond.code yX2_append cX2_append 2 none]
def wsX4_ask : List Cond := .code yX4_ask cX4_ask 6 (some .int) :: ((wsX4_ask_r1 ++ (wsX4_ask_r2 ++ (wsX4_ask_r3 ++ (wsX4_ask_r4 ++ wsX4_ask_r5)))) ++ wsX40 ++ wsX20 ++ wsX00 ++ wsX10)
def wsX4_isRow : List Cond := .code yX4_isRow cX4_isRow 1 (some .boolean) :: ([])
def wsX4_lock_r1 : List Cond := [Cond.fieldLink RX4 10 "LockDesk" "numbers" "LLockDesk$Numbers;", Cond.fieldLink RX4 33 "LockDesk" "queue" "LLockDesk$Queue;", Cond.fieldLink RX4 26 "LockDesk" "rowLocks" "LLockDesk$RowLocks;", Cond.methodLink RX4 45 yX1_runnerOf, Cond.instanceMethod yX1_runnerOf, Cond.selects RX1 yX1_runnerOf yX1_runnerOf, Cond.initialized RX1, Cond.code yX1_runnerOf cX1_runnerOf 2 (some .int), Cond.fieldLink RX1 9 "LockDesk$Numbers" "runners" "[B", Cond.methodLink RX1 19 yX1_wasGiven, Cond.instanceMethod yX1_wasGiven, Cond.selects RX1 yX1_wasGiven yX1_wasGiven, Cond.code yX1_wasGiven cX1_wasGiven 2 (some .boolean), Cond.fieldLink RX1 15 "LockDesk$Numbers" "given" "I", Cond.methodLink RX4 90 yX4_isRow, Cond.static yX4_isRow, Cond.initialized RX4, Cond.code yX4_isRow cX4_isRow 1 (some .boolean), Cond.methodLink RX4 64 yX2_contains, Cond.instanceMethod yX2_contains, Cond.selects RX2 yX2_contains yX2_contains, Cond.initialized RX2, Cond.code yX2_contains cX2_contains 2 (some .boolean), Cond.methodLink RX2 35 yX2_placeOf]
def wsX4_lock_r2 : List Cond := [Cond.instanceMethod yX2_placeOf, Cond.selects RX2 yX2_placeOf yX2_placeOf, Cond.code yX2_placeOf cX2_placeOf 3 (some .int), Cond.fieldLink RX2 15 "LockDesk$Queue" "count" "I", Cond.fieldLink RX2 9 "LockDesk$Queue" "order" "[I", Cond.methodLink RX4 93 yX3_suffices, Cond.instanceMethod yX3_suffices, Cond.selects RX3 yX3_suffices yX3_suffices, Cond.initialized RX3, Cond.code yX3_suffices cX3_suffices 5 (some .boolean), Cond.fieldLink RX3 24 "LockDesk$RowLocks" "count" "I", Cond.fieldLink RX3 18 "LockDesk$RowLocks" "rows" "[I", Cond.fieldLink RX3 15 "LockDesk$RowLocks" "sessions" "[I", Cond.fieldLink RX3 21 "LockDesk$RowLocks" "strengths" "[I", Cond.methodLink RX4 97 yX3_leastInConflict, Cond.instanceMethod yX3_leastInConflict, Cond.selects RX3 yX3_leastInConflict yX3_leastInConflict, Cond.code yX3_leastInConflict cX3_leastInConflict 6 (some .int), Cond.fieldLink RX3 9 "LockDesk$RowLocks" "lockers" "[I", Cond.methodLink RX4 100 yX3_note, Cond.instanceMethod yX3_note, Cond.selects RX3 yX3_note yX3_note, Cond.code yX3_note cX3_note 7 (some .boolean), Cond.methodLink RX3 28 yX3_copy]
def wsX4_lock_r3 : List Cond := [Cond.instanceMethod yX3_copy, Cond.selects RX3 yX3_copy yX3_copy, Cond.code yX3_copy cX3_copy 3 none]
def wsX4_lock : List Cond := .code yX4_lock cX4_lock 6 (some .int) :: ((wsX4_lock_r1 ++ (wsX4_lock_r2 ++ wsX4_lock_r3)) ++ wsX40 ++ wsX10 ++ wsX20 ++ wsX30)
def wsX4_await_r1 : List Cond := [Cond.fieldLink RX4 10 "LockDesk" "numbers" "LLockDesk$Numbers;", Cond.fieldLink RX4 33 "LockDesk" "queue" "LLockDesk$Queue;", Cond.methodLink RX4 37 yX4_isSession, Cond.static yX4_isSession, Cond.initialized RX4, Cond.code yX4_isSession cX4_isSession 1 (some .boolean), Cond.methodLink RX4 104 yX1_wasGiven, Cond.instanceMethod yX1_wasGiven, Cond.selects RX1 yX1_wasGiven yX1_wasGiven, Cond.initialized RX1, Cond.code yX1_wasGiven cX1_wasGiven 2 (some .boolean), Cond.fieldLink RX1 15 "LockDesk$Numbers" "given" "I", Cond.methodLink RX4 64 yX2_contains, Cond.instanceMethod yX2_contains, Cond.selects RX2 yX2_contains yX2_contains, Cond.initialized RX2, Cond.code yX2_contains cX2_contains 2 (some .boolean), Cond.methodLink RX2 35 yX2_placeOf, Cond.instanceMethod yX2_placeOf, Cond.selects RX2 yX2_placeOf yX2_placeOf, Cond.code yX2_placeOf cX2_placeOf 3 (some .int), Cond.fieldLink RX2 15 "LockDesk$Queue" "count" "I", Cond.fieldLink RX2 9 "LockDesk$Queue" "order" "[I", Cond.methodLink RX4 45 yX1_runnerOf]
def wsX4_await_r2 : List Cond := [Cond.instanceMethod yX1_runnerOf, Cond.selects RX1 yX1_runnerOf yX1_runnerOf, Cond.code yX1_runnerOf cX1_runnerOf 2 (some .int), Cond.fieldLink RX1 9 "LockDesk$Numbers" "runners" "[B", Cond.methodLink RX1 19 yX1_wasGiven, Cond.methodLink RX4 83 yX4_closesRing, Cond.instanceMethod yX4_closesRing, Cond.selects RX4 yX4_closesRing yX4_closesRing, Cond.code yX4_closesRing cX4_closesRing 6 (some .boolean), Cond.methodLink RX4 169 yX4_has, Cond.static yX4_has, Cond.code yX4_has cX4_has 2 (some .boolean), Cond.methodLink RX4 114 yX4_waitsOn, Cond.instanceMethod yX4_waitsOn, Cond.selects RX4 yX4_waitsOn yX4_waitsOn, Cond.code yX4_waitsOn cX4_waitsOn 4 (some .int), Cond.methodLink RX4 160 yX2_placeOf, Cond.methodLink RX4 143 yX2_isForNumber, Cond.instanceMethod yX2_isForNumber, Cond.selects RX2 yX2_isForNumber yX2_isForNumber, Cond.code yX2_isForNumber cX2_isForNumber 2 (some .boolean), Cond.fieldLink RX2 19 "LockDesk$Queue" "awaited" "[I", Cond.methodLink RX4 146 yX2_numberOf, Cond.instanceMethod yX2_numberOf]
def wsX4_await_r3 : List Cond := [Cond.selects RX2 yX2_numberOf yX2_numberOf, Cond.code yX2_numberOf cX2_numberOf 2 (some .int), Cond.methodLink RX4 155 yX2_isDropped, Cond.instanceMethod yX2_isDropped, Cond.selects RX2 yX2_isDropped yX2_isDropped, Cond.code yX2_isDropped cX2_isDropped 2 (some .boolean), Cond.fieldLink RX2 31 "LockDesk$Queue" "dropped" "[Z", Cond.methodLink RX4 149 yX2_tableOf, Cond.instanceMethod yX2_tableOf, Cond.selects RX2 yX2_tableOf yX2_tableOf, Cond.code yX2_tableOf cX2_tableOf 2 (some .int), Cond.fieldLink RX2 22 "LockDesk$Queue" "tables" "[I", Cond.methodLink RX4 152 yX2_modeOf, Cond.instanceMethod yX2_modeOf, Cond.selects RX2 yX2_modeOf yX2_modeOf, Cond.code yX2_modeOf cX2_modeOf 2 (some .int), Cond.fieldLink RX2 25 "LockDesk$Queue" "modes" "[I", Cond.methodLink RX4 75 yX4_inTheWay, Cond.instanceMethod yX4_inTheWay, Cond.selects RX4 yX4_inTheWay yX4_inTheWay, Cond.code yX4_inTheWay cX4_inTheWay 7 (some .int), Cond.fieldLink RX4 19 "LockDesk" "holdings" "LLockDesk$Holdings;", Cond.methodLink RX4 163 yX0_standAgainst, Cond.instanceMethod yX0_standAgainst]
def wsX4_await_r4 : List Cond := [Cond.selects RX0 yX0_standAgainst yX0_standAgainst, Cond.initialized RX0, Cond.code yX0_standAgainst cX0_standAgainst 5 (some .boolean), Cond.fieldLink RX0 11 "LockDesk$Holdings" "levels" "[B", Cond.static yX4_conflict, Cond.code yX4_conflict cX4_conflict 2 (some .boolean), Cond.fieldLink RX4 172 "LockDesk" "CONFLICTS" "[I", Cond.methodLink RX0 21 yX0_cell, Cond.static yX0_cell, Cond.code yX0_cell cX0_cell 3 (some .int), Cond.methodLink RX4 166 yX2_earlierAgainst, Cond.instanceMethod yX2_earlierAgainst, Cond.selects RX2 yX2_earlierAgainst yX2_earlierAgainst, Cond.code yX2_earlierAgainst cX2_earlierAgainst 7 (some .int), Cond.methodLink RX2 43 yX2_wants, Cond.instanceMethod yX2_wants, Cond.selects RX2 yX2_wants yX2_wants, Cond.code yX2_wants cX2_wants 3 (some .boolean), Cond.methodLink RX4 107 yX2_addForNumber, Cond.instanceMethod yX2_addForNumber, Cond.selects RX2 yX2_addForNumber yX2_addForNumber, Cond.code yX2_addForNumber cX2_addForNumber 3 none, Cond.methodLink RX2 39 yX2_append, Cond.instanceMethod yX2_append]
def wsX4_await_r5 : List Cond := [Cond.selects RX2 yX2_append yX2_append, Cond.code yX2_append cX2_append 2 none]
def wsX4_await : List Cond := .code yX4_await cX4_await 4 (some .int) :: ((wsX4_await_r1 ++ (wsX4_await_r2 ++ (wsX4_await_r3 ++ (wsX4_await_r4 ++ wsX4_await_r5)))) ++ wsX40 ++ wsX10 ++ wsX20 ++ wsX00)
def wsX4_wake_r1 : List Cond := [Cond.fieldLink RX4 33 "LockDesk" "queue" "LLockDesk$Queue;", Cond.fieldLink RX4 19 "LockDesk" "holdings" "LLockDesk$Holdings;", Cond.methodLink RX4 120 yX2_remove, Cond.instanceMethod yX2_remove, Cond.selects RX2 yX2_remove yX2_remove, Cond.initialized RX2, Cond.code yX2_remove cX2_remove 4 none, Cond.fieldLink RX2 15 "LockDesk$Queue" "count" "I", Cond.fieldLink RX2 9 "LockDesk$Queue" "order" "[I", Cond.methodLink RX4 143 yX2_isForNumber, Cond.instanceMethod yX2_isForNumber, Cond.selects RX2 yX2_isForNumber yX2_isForNumber, Cond.code yX2_isForNumber cX2_isForNumber 2 (some .boolean), Cond.fieldLink RX2 19 "LockDesk$Queue" "awaited" "[I", Cond.methodLink RX4 155 yX2_isDropped, Cond.instanceMethod yX2_isDropped, Cond.selects RX2 yX2_isDropped yX2_isDropped, Cond.code yX2_isDropped cX2_isDropped 2 (some .boolean), Cond.fieldLink RX2 31 "LockDesk$Queue" "dropped" "[Z", Cond.methodLink RX4 158 yX2_levelOf, Cond.instanceMethod yX2_levelOf, Cond.selects RX2 yX2_levelOf yX2_levelOf, Cond.code yX2_levelOf cX2_levelOf 2 (some .int), Cond.fieldLink RX2 28 "LockDesk$Queue" "levels" "[I"]
def wsX4_wake_r2 : List Cond := [Cond.methodLink RX4 149 yX2_tableOf, Cond.instanceMethod yX2_tableOf, Cond.selects RX2 yX2_tableOf yX2_tableOf, Cond.code yX2_tableOf cX2_tableOf 2 (some .int), Cond.fieldLink RX2 22 "LockDesk$Queue" "tables" "[I", Cond.methodLink RX4 152 yX2_modeOf, Cond.instanceMethod yX2_modeOf, Cond.selects RX2 yX2_modeOf yX2_modeOf, Cond.code yX2_modeOf cX2_modeOf 2 (some .int), Cond.fieldLink RX2 25 "LockDesk$Queue" "modes" "[I", Cond.methodLink RX4 79 yX0_take, Cond.instanceMethod yX0_take, Cond.selects RX0 yX0_take yX0_take, Cond.initialized RX0, Cond.code yX0_take cX0_take 5 none, Cond.fieldLink RX0 11 "LockDesk$Holdings" "levels" "[B", Cond.methodLink RX0 21 yX0_cell, Cond.static yX0_cell, Cond.code yX0_cell cX0_cell 3 (some .int)]
def wsX4_wake : List Cond := .code yX4_wake cX4_wake 2 (some .int) :: ((wsX4_wake_r1 ++ wsX4_wake_r2) ++ wsX40 ++ wsX20 ++ wsX00)
def wsX4_next_r1 : List Cond := [Cond.fieldLink RX4 33 "LockDesk" "queue" "LLockDesk$Queue;", Cond.methodLink RX4 71 yX2_size, Cond.instanceMethod yX2_size, Cond.selects RX2 yX2_size yX2_size, Cond.initialized RX2, Cond.code yX2_size cX2_size 1 (some .int), Cond.fieldLink RX2 15 "LockDesk$Queue" "count" "I", Cond.methodLink RX4 111 yX2_sessionAt, Cond.instanceMethod yX2_sessionAt, Cond.selects RX2 yX2_sessionAt yX2_sessionAt, Cond.code yX2_sessionAt cX2_sessionAt 2 (some .int), Cond.fieldLink RX2 9 "LockDesk$Queue" "order" "[I", Cond.methodLink RX4 114 yX4_waitsOn, Cond.instanceMethod yX4_waitsOn, Cond.selects RX4 yX4_waitsOn yX4_waitsOn, Cond.initialized RX4, Cond.code yX4_waitsOn cX4_waitsOn 4 (some .int), Cond.fieldLink RX4 10 "LockDesk" "numbers" "LLockDesk$Numbers;", Cond.methodLink RX4 160 yX2_placeOf, Cond.instanceMethod yX2_placeOf, Cond.selects RX2 yX2_placeOf yX2_placeOf, Cond.code yX2_placeOf cX2_placeOf 3 (some .int), Cond.methodLink RX4 143 yX2_isForNumber, Cond.instanceMethod yX2_isForNumber]
def wsX4_next_r2 : List Cond := [Cond.selects RX2 yX2_isForNumber yX2_isForNumber, Cond.code yX2_isForNumber cX2_isForNumber 2 (some .boolean), Cond.fieldLink RX2 19 "LockDesk$Queue" "awaited" "[I", Cond.methodLink RX4 146 yX2_numberOf, Cond.instanceMethod yX2_numberOf, Cond.selects RX2 yX2_numberOf yX2_numberOf, Cond.code yX2_numberOf cX2_numberOf 2 (some .int), Cond.methodLink RX4 45 yX1_runnerOf, Cond.instanceMethod yX1_runnerOf, Cond.selects RX1 yX1_runnerOf yX1_runnerOf, Cond.initialized RX1, Cond.code yX1_runnerOf cX1_runnerOf 2 (some .int), Cond.fieldLink RX1 9 "LockDesk$Numbers" "runners" "[B", Cond.methodLink RX1 19 yX1_wasGiven, Cond.instanceMethod yX1_wasGiven, Cond.selects RX1 yX1_wasGiven yX1_wasGiven, Cond.code yX1_wasGiven cX1_wasGiven 2 (some .boolean), Cond.fieldLink RX1 15 "LockDesk$Numbers" "given" "I", Cond.methodLink RX4 155 yX2_isDropped, Cond.instanceMethod yX2_isDropped, Cond.selects RX2 yX2_isDropped yX2_isDropped, Cond.code yX2_isDropped cX2_isDropped 2 (some .boolean), Cond.fieldLink RX2 31 "LockDesk$Queue" "dropped" "[Z", Cond.methodLink RX4 149 yX2_tableOf]
def wsX4_next_r3 : List Cond := [Cond.instanceMethod yX2_tableOf, Cond.selects RX2 yX2_tableOf yX2_tableOf, Cond.code yX2_tableOf cX2_tableOf 2 (some .int), Cond.fieldLink RX2 22 "LockDesk$Queue" "tables" "[I", Cond.methodLink RX4 152 yX2_modeOf, Cond.instanceMethod yX2_modeOf, Cond.selects RX2 yX2_modeOf yX2_modeOf, Cond.code yX2_modeOf cX2_modeOf 2 (some .int), Cond.fieldLink RX2 25 "LockDesk$Queue" "modes" "[I", Cond.methodLink RX4 75 yX4_inTheWay, Cond.instanceMethod yX4_inTheWay, Cond.selects RX4 yX4_inTheWay yX4_inTheWay, Cond.code yX4_inTheWay cX4_inTheWay 7 (some .int), Cond.fieldLink RX4 19 "LockDesk" "holdings" "LLockDesk$Holdings;", Cond.methodLink RX4 163 yX0_standAgainst, Cond.instanceMethod yX0_standAgainst, Cond.selects RX0 yX0_standAgainst yX0_standAgainst, Cond.initialized RX0, Cond.code yX0_standAgainst cX0_standAgainst 5 (some .boolean), Cond.fieldLink RX0 11 "LockDesk$Holdings" "levels" "[B", Cond.static yX4_conflict, Cond.code yX4_conflict cX4_conflict 2 (some .boolean), Cond.fieldLink RX4 172 "LockDesk" "CONFLICTS" "[I", Cond.methodLink RX4 169 yX4_has]
def wsX4_next_r4 : List Cond := [Cond.static yX4_has, Cond.code yX4_has cX4_has 2 (some .boolean), Cond.methodLink RX0 21 yX0_cell, Cond.static yX0_cell, Cond.code yX0_cell cX0_cell 3 (some .int), Cond.methodLink RX4 166 yX2_earlierAgainst, Cond.instanceMethod yX2_earlierAgainst, Cond.selects RX2 yX2_earlierAgainst yX2_earlierAgainst, Cond.code yX2_earlierAgainst cX2_earlierAgainst 7 (some .int), Cond.methodLink RX2 43 yX2_wants, Cond.instanceMethod yX2_wants, Cond.selects RX2 yX2_wants yX2_wants, Cond.code yX2_wants cX2_wants 3 (some .boolean), Cond.methodLink RX4 117 yX4_wake, Cond.instanceMethod yX4_wake, Cond.selects RX4 yX4_wake yX4_wake, Cond.code yX4_wake cX4_wake 2 (some .int), Cond.methodLink RX4 120 yX2_remove, Cond.instanceMethod yX2_remove, Cond.selects RX2 yX2_remove yX2_remove, Cond.code yX2_remove cX2_remove 4 none, Cond.methodLink RX4 158 yX2_levelOf, Cond.instanceMethod yX2_levelOf, Cond.selects RX2 yX2_levelOf yX2_levelOf]
def wsX4_next_r5 : List Cond := [Cond.code yX2_levelOf cX2_levelOf 2 (some .int), Cond.fieldLink RX2 28 "LockDesk$Queue" "levels" "[I", Cond.methodLink RX4 79 yX0_take, Cond.instanceMethod yX0_take, Cond.selects RX0 yX0_take yX0_take, Cond.code yX0_take cX0_take 5 none]
def wsX4_next : List Cond := .code yX4_next cX4_next 3 (some .int) :: ((wsX4_next_r1 ++ (wsX4_next_r2 ++ (wsX4_next_r3 ++ (wsX4_next_r4 ++ wsX4_next_r5)))) ++ wsX40 ++ wsX20 ++ wsX10 ++ wsX00)
def wsX4_cancel : List Cond := .code yX4_cancel cX4_cancel 2 (some .boolean) :: ([.fieldLink RX4 33 "LockDesk" "queue" "LLockDesk$Queue;", .methodLink RX4 64 yX2_contains, .instanceMethod yX2_contains, .selects RX2 yX2_contains yX2_contains, .initialized RX2, .code yX2_contains cX2_contains 2 (some .boolean), .methodLink RX2 35 yX2_placeOf, .instanceMethod yX2_placeOf, .selects RX2 yX2_placeOf yX2_placeOf, .code yX2_placeOf cX2_placeOf 3 (some .int), .fieldLink RX2 15 "LockDesk$Queue" "count" "I", .fieldLink RX2 9 "LockDesk$Queue" "order" "[I", .methodLink RX4 120 yX2_remove, .instanceMethod yX2_remove, .selects RX2 yX2_remove yX2_remove, .code yX2_remove cX2_remove 4 none] ++ wsX40 ++ wsX20)
def wsX4_end : List Cond := .code yX4_end cX4_end 3 (some .boolean) :: ([.fieldLink RX4 19 "LockDesk" "holdings" "LLockDesk$Holdings;", .methodLink RX4 37 yX4_isSession, .static yX4_isSession, .initialized RX4, .code yX4_isSession cX4_isSession 1 (some .boolean), .methodLink RX4 55 yX4_isLevel, .static yX4_isLevel, .code yX4_isLevel cX4_isLevel 1 (some .boolean), .methodLink RX4 123 yX0_giveUp, .instanceMethod yX0_giveUp, .selects RX0 yX0_giveUp yX0_giveUp, .initialized RX0, .code yX0_giveUp cX0_giveUp 3 none, .methodLink RX0 29 yX0_replaceFrom, .instanceMethod yX0_replaceFrom, .selects RX0 yX0_replaceFrom yX0_replaceFrom, .code yX0_replaceFrom cX0_replaceFrom 6 none, .fieldLink RX0 11 "LockDesk$Holdings" "levels" "[B", .methodLink RX0 21 yX0_cell, .static yX0_cell, .code yX0_cell cX0_cell 3 (some .int)] ++ wsX40 ++ wsX00)
def wsX4_release_r1 : List Cond := [Cond.fieldLink RX4 19 "LockDesk" "holdings" "LLockDesk$Holdings;", Cond.fieldLink RX4 33 "LockDesk" "queue" "LLockDesk$Queue;", Cond.methodLink RX4 37 yX4_isSession, Cond.static yX4_isSession, Cond.initialized RX4, Cond.code yX4_isSession cX4_isSession 1 (some .boolean), Cond.methodLink RX4 55 yX4_isLevel, Cond.static yX4_isLevel, Cond.code yX4_isLevel cX4_isLevel 1 (some .boolean), Cond.methodLink RX4 126 yX0_lower, Cond.instanceMethod yX0_lower, Cond.selects RX0 yX0_lower yX0_lower, Cond.initialized RX0, Cond.code yX0_lower cX0_lower 3 none, Cond.methodLink RX0 29 yX0_replaceFrom, Cond.instanceMethod yX0_replaceFrom, Cond.selects RX0 yX0_replaceFrom yX0_replaceFrom, Cond.code yX0_replaceFrom cX0_replaceFrom 6 none, Cond.fieldLink RX0 11 "LockDesk$Holdings" "levels" "[B", Cond.methodLink RX0 21 yX0_cell, Cond.static yX0_cell, Cond.code yX0_cell cX0_cell 3 (some .int), Cond.methodLink RX4 129 yX2_lower, Cond.instanceMethod yX2_lower]
def wsX4_release_r2 : List Cond := [Cond.selects RX2 yX2_lower yX2_lower, Cond.initialized RX2, Cond.code yX2_lower cX2_lower 3 none, Cond.fieldLink RX2 28 "LockDesk$Queue" "levels" "[I"]
def wsX4_release : List Cond := .code yX4_release cX4_release 3 (some .boolean) :: ((wsX4_release_r1 ++ wsX4_release_r2) ++ wsX40 ++ wsX00 ++ wsX20)
def wsX4_drop_r1 : List Cond := [Cond.fieldLink RX4 19 "LockDesk" "holdings" "LLockDesk$Holdings;", Cond.fieldLink RX4 33 "LockDesk" "queue" "LLockDesk$Queue;", Cond.methodLink RX4 58 yX4_isTable, Cond.static yX4_isTable, Cond.initialized RX4, Cond.code yX4_isTable cX4_isTable 1 (some .boolean), Cond.methodLink RX4 130 yX0_forgetTable, Cond.instanceMethod yX0_forgetTable, Cond.selects RX0 yX0_forgetTable yX0_forgetTable, Cond.initialized RX0, Cond.code yX0_forgetTable cX0_forgetTable 4 none, Cond.fieldLink RX0 11 "LockDesk$Holdings" "levels" "[B", Cond.methodLink RX0 21 yX0_cell, Cond.static yX0_cell, Cond.code yX0_cell cX0_cell 3 (some .int), Cond.methodLink RX4 133 yX2_markDropped, Cond.instanceMethod yX2_markDropped, Cond.selects RX2 yX2_markDropped yX2_markDropped, Cond.initialized RX2, Cond.code yX2_markDropped cX2_markDropped 3 none, Cond.fieldLink RX2 15 "LockDesk$Queue" "count" "I", Cond.fieldLink RX2 9 "LockDesk$Queue" "order" "[I", Cond.fieldLink RX2 31 "LockDesk$Queue" "dropped" "[Z", Cond.methodLink RX2 43 yX2_wants]
def wsX4_drop_r2 : List Cond := [Cond.instanceMethod yX2_wants, Cond.selects RX2 yX2_wants yX2_wants, Cond.code yX2_wants cX2_wants 3 (some .boolean), Cond.fieldLink RX2 19 "LockDesk$Queue" "awaited" "[I", Cond.fieldLink RX2 22 "LockDesk$Queue" "tables" "[I"]
def wsX4_drop : List Cond := .code yX4_drop cX4_drop 2 (some .boolean) :: ((wsX4_drop_r1 ++ wsX4_drop_r2) ++ wsX40 ++ wsX00 ++ wsX20)
def wsX4_clear : List Cond := .code yX4_clear cX4_clear 2 (some .boolean) :: ([.fieldLink RX4 26 "LockDesk" "rowLocks" "LLockDesk$RowLocks;", .methodLink RX4 90 yX4_isRow, .static yX4_isRow, .initialized RX4, .code yX4_isRow cX4_isRow 1 (some .boolean), .methodLink RX4 136 yX3_forgetRow, .instanceMethod yX3_forgetRow, .selects RX3 yX3_forgetRow yX3_forgetRow, .initialized RX3, .code yX3_forgetRow cX3_forgetRow 2 none, .fieldLink RX3 18 "LockDesk$RowLocks" "rows" "[I", .methodLink RX3 32 yX3_forgetWhere, .instanceMethod yX3_forgetWhere, .selects RX3 yX3_forgetWhere yX3_forgetWhere, .code yX3_forgetWhere cX3_forgetWhere 5 none, .fieldLink RX3 24 "LockDesk$RowLocks" "count" "I", .methodLink RX3 28 yX3_copy, .instanceMethod yX3_copy, .selects RX3 yX3_copy yX3_copy, .code yX3_copy cX3_copy 3 none, .fieldLink RX3 9 "LockDesk$RowLocks" "lockers" "[I", .fieldLink RX3 15 "LockDesk$RowLocks" "sessions" "[I", .fieldLink RX3 21 "LockDesk$RowLocks" "strengths" "[I"] ++ wsX40 ++ wsX30)
def wsX4_holds : List Cond := .code yX4_holds cX4_holds 4 (some .int) :: ([.fieldLink RX4 19 "LockDesk" "holdings" "LLockDesk$Holdings;", .methodLink RX4 37 yX4_isSession, .static yX4_isSession, .initialized RX4, .code yX4_isSession cX4_isSession 1 (some .boolean), .methodLink RX4 58 yX4_isTable, .static yX4_isTable, .code yX4_isTable cX4_isTable 1 (some .boolean), .methodLink RX4 61 yX4_isMode, .static yX4_isMode, .code yX4_isMode cX4_isMode 1 (some .boolean), .methodLink RX4 67 yX0_levelOf, .instanceMethod yX0_levelOf, .selects RX0 yX0_levelOf yX0_levelOf, .initialized RX0, .code yX0_levelOf cX0_levelOf 4 (some .int), .fieldLink RX0 11 "LockDesk$Holdings" "levels" "[B", .methodLink RX0 21 yX0_cell, .static yX0_cell, .code yX0_cell cX0_cell 3 (some .int)] ++ wsX40 ++ wsX00)
def wsX4_locker : List Cond := .code yX4_locker cX4_locker 3 (some .int) :: ([.fieldLink RX4 26 "LockDesk" "rowLocks" "LLockDesk$RowLocks;", .methodLink RX4 139 yX3_signedNumberAt, .instanceMethod yX3_signedNumberAt, .selects RX3 yX3_signedNumberAt yX3_signedNumberAt, .initialized RX3, .code yX3_signedNumberAt cX3_signedNumberAt 5 (some .int), .fieldLink RX3 24 "LockDesk$RowLocks" "count" "I", .fieldLink RX3 18 "LockDesk$RowLocks" "rows" "[I", .fieldLink RX3 21 "LockDesk$RowLocks" "strengths" "[I", .fieldLink RX3 9 "LockDesk$RowLocks" "lockers" "[I"] ++ wsX40 ++ wsX30)
def wsX4_on_r1 : List Cond := [Cond.methodLink RX4 114 yX4_waitsOn, Cond.instanceMethod yX4_waitsOn, Cond.selects RX4 yX4_waitsOn yX4_waitsOn, Cond.initialized RX4, Cond.code yX4_waitsOn cX4_waitsOn 4 (some .int), Cond.fieldLink RX4 33 "LockDesk" "queue" "LLockDesk$Queue;", Cond.fieldLink RX4 10 "LockDesk" "numbers" "LLockDesk$Numbers;", Cond.methodLink RX4 160 yX2_placeOf, Cond.instanceMethod yX2_placeOf, Cond.selects RX2 yX2_placeOf yX2_placeOf, Cond.initialized RX2, Cond.code yX2_placeOf cX2_placeOf 3 (some .int), Cond.fieldLink RX2 15 "LockDesk$Queue" "count" "I", Cond.fieldLink RX2 9 "LockDesk$Queue" "order" "[I", Cond.methodLink RX4 143 yX2_isForNumber, Cond.instanceMethod yX2_isForNumber, Cond.selects RX2 yX2_isForNumber yX2_isForNumber, Cond.code yX2_isForNumber cX2_isForNumber 2 (some .boolean), Cond.fieldLink RX2 19 "LockDesk$Queue" "awaited" "[I", Cond.methodLink RX4 146 yX2_numberOf, Cond.instanceMethod yX2_numberOf, Cond.selects RX2 yX2_numberOf yX2_numberOf, Cond.code yX2_numberOf cX2_numberOf 2 (some .int), Cond.methodLink RX4 45 yX1_runnerOf]
def wsX4_on_r2 : List Cond := [Cond.instanceMethod yX1_runnerOf, Cond.selects RX1 yX1_runnerOf yX1_runnerOf, Cond.initialized RX1, Cond.code yX1_runnerOf cX1_runnerOf 2 (some .int), Cond.fieldLink RX1 9 "LockDesk$Numbers" "runners" "[B", Cond.methodLink RX1 19 yX1_wasGiven, Cond.instanceMethod yX1_wasGiven, Cond.selects RX1 yX1_wasGiven yX1_wasGiven, Cond.code yX1_wasGiven cX1_wasGiven 2 (some .boolean), Cond.fieldLink RX1 15 "LockDesk$Numbers" "given" "I", Cond.methodLink RX4 155 yX2_isDropped, Cond.instanceMethod yX2_isDropped, Cond.selects RX2 yX2_isDropped yX2_isDropped, Cond.code yX2_isDropped cX2_isDropped 2 (some .boolean), Cond.fieldLink RX2 31 "LockDesk$Queue" "dropped" "[Z", Cond.methodLink RX4 149 yX2_tableOf, Cond.instanceMethod yX2_tableOf, Cond.selects RX2 yX2_tableOf yX2_tableOf, Cond.code yX2_tableOf cX2_tableOf 2 (some .int), Cond.fieldLink RX2 22 "LockDesk$Queue" "tables" "[I", Cond.methodLink RX4 152 yX2_modeOf, Cond.instanceMethod yX2_modeOf, Cond.selects RX2 yX2_modeOf yX2_modeOf, Cond.code yX2_modeOf cX2_modeOf 2 (some .int)]
def wsX4_on_r3 : List Cond := [Cond.fieldLink RX2 25 "LockDesk$Queue" "modes" "[I", Cond.methodLink RX4 75 yX4_inTheWay, Cond.instanceMethod yX4_inTheWay, Cond.selects RX4 yX4_inTheWay yX4_inTheWay, Cond.code yX4_inTheWay cX4_inTheWay 7 (some .int), Cond.fieldLink RX4 19 "LockDesk" "holdings" "LLockDesk$Holdings;", Cond.methodLink RX4 163 yX0_standAgainst, Cond.instanceMethod yX0_standAgainst, Cond.selects RX0 yX0_standAgainst yX0_standAgainst, Cond.initialized RX0, Cond.code yX0_standAgainst cX0_standAgainst 5 (some .boolean), Cond.fieldLink RX0 11 "LockDesk$Holdings" "levels" "[B", Cond.static yX4_conflict, Cond.code yX4_conflict cX4_conflict 2 (some .boolean), Cond.fieldLink RX4 172 "LockDesk" "CONFLICTS" "[I", Cond.methodLink RX4 169 yX4_has, Cond.static yX4_has, Cond.code yX4_has cX4_has 2 (some .boolean), Cond.methodLink RX0 21 yX0_cell, Cond.static yX0_cell, Cond.code yX0_cell cX0_cell 3 (some .int), Cond.methodLink RX4 166 yX2_earlierAgainst, Cond.instanceMethod yX2_earlierAgainst, Cond.selects RX2 yX2_earlierAgainst yX2_earlierAgainst]
def wsX4_on_r4 : List Cond := [Cond.code yX2_earlierAgainst cX2_earlierAgainst 7 (some .int), Cond.methodLink RX2 43 yX2_wants, Cond.instanceMethod yX2_wants, Cond.selects RX2 yX2_wants yX2_wants, Cond.code yX2_wants cX2_wants 3 (some .boolean)]
def wsX4_on : List Cond := .code yX4_on cX4_on 2 (some .int) :: ((wsX4_on_r1 ++ (wsX4_on_r2 ++ (wsX4_on_r3 ++ wsX4_on_r4))) ++ wsX40 ++ wsX20 ++ wsX10 ++ wsX00)
def wsX4_waiting : List Cond := .code yX4_waiting cX4_waiting 2 (some .int) :: ([.fieldLink RX4 33 "LockDesk" "queue" "LLockDesk$Queue;", .methodLink RX4 111 yX2_sessionAt, .instanceMethod yX2_sessionAt, .selects RX2 yX2_sessionAt yX2_sessionAt, .initialized RX2, .code yX2_sessionAt cX2_sessionAt 2 (some .int), .fieldLink RX2 15 "LockDesk$Queue" "count" "I", .fieldLink RX2 9 "LockDesk$Queue" "order" "[I"] ++ wsX40 ++ wsX20)
def wsX4_wish_r1 : List Cond := [Cond.fieldLink RX4 33 "LockDesk" "queue" "LLockDesk$Queue;", Cond.methodLink RX4 37 yX4_isSession, Cond.static yX4_isSession, Cond.initialized RX4, Cond.code yX4_isSession cX4_isSession 1 (some .boolean), Cond.methodLink RX4 64 yX2_contains, Cond.instanceMethod yX2_contains, Cond.selects RX2 yX2_contains yX2_contains, Cond.initialized RX2, Cond.code yX2_contains cX2_contains 2 (some .boolean), Cond.methodLink RX2 35 yX2_placeOf, Cond.instanceMethod yX2_placeOf, Cond.selects RX2 yX2_placeOf yX2_placeOf, Cond.code yX2_placeOf cX2_placeOf 3 (some .int), Cond.fieldLink RX2 15 "LockDesk$Queue" "count" "I", Cond.fieldLink RX2 9 "LockDesk$Queue" "order" "[I", Cond.methodLink RX4 143 yX2_isForNumber, Cond.instanceMethod yX2_isForNumber, Cond.selects RX2 yX2_isForNumber yX2_isForNumber, Cond.code yX2_isForNumber cX2_isForNumber 2 (some .boolean), Cond.fieldLink RX2 19 "LockDesk$Queue" "awaited" "[I", Cond.methodLink RX4 146 yX2_numberOf, Cond.instanceMethod yX2_numberOf, Cond.selects RX2 yX2_numberOf yX2_numberOf]
def wsX4_wish_r2 : List Cond := [Cond.code yX2_numberOf cX2_numberOf 2 (some .int), Cond.methodLink RX4 149 yX2_tableOf, Cond.instanceMethod yX2_tableOf, Cond.selects RX2 yX2_tableOf yX2_tableOf, Cond.code yX2_tableOf cX2_tableOf 2 (some .int), Cond.fieldLink RX2 22 "LockDesk$Queue" "tables" "[I", Cond.methodLink RX4 152 yX2_modeOf, Cond.instanceMethod yX2_modeOf, Cond.selects RX2 yX2_modeOf yX2_modeOf, Cond.code yX2_modeOf cX2_modeOf 2 (some .int), Cond.fieldLink RX2 25 "LockDesk$Queue" "modes" "[I", Cond.methodLink RX4 155 yX2_isDropped, Cond.instanceMethod yX2_isDropped, Cond.selects RX2 yX2_isDropped yX2_isDropped, Cond.code yX2_isDropped cX2_isDropped 2 (some .boolean), Cond.fieldLink RX2 31 "LockDesk$Queue" "dropped" "[Z"]
def wsX4_wish : List Cond := .code yX4_wish cX4_wish 3 (some .int) :: ((wsX4_wish_r1 ++ wsX4_wish_r2) ++ wsX40 ++ wsX20)
def wsX5_init : List Cond := .code yX5_init cX5_init 1 none :: ([.methodLink RX5 1 objectInit, .instanceMethod objectInit, .code objectInit ⟨#[0xb1]⟩ 1 none, .arrayClass .int, .fieldLink RX5 7 "LockDeskModel" "against" "[I", .fieldLink RX5 13 "LockDeskModel" "owner" "[I", .arrayClass .boolean, .fieldLink RX5 16 "LockDeskModel" "runs" "[Z", .fieldLink RX5 20 "LockDeskModel" "held" "[I", .fieldLink RX5 23 "LockDeskModel" "kind" "[I", .fieldLink RX5 26 "LockDeskModel" "table" "[I", .fieldLink RX5 29 "LockDeskModel" "mode" "[I", .fieldLink RX5 32 "LockDeskModel" "level" "[I", .fieldLink RX5 35 "LockDeskModel" "dropped" "[Z", .fieldLink RX5 38 "LockDeskModel" "number" "[I", .fieldLink RX5 41 "LockDeskModel" "began" "[I", .fieldLink RX5 44 "LockDeskModel" "lockRow" "[I", .fieldLink RX5 47 "LockDeskModel" "lockBy" "[I", .fieldLink RX5 50 "LockDeskModel" "lockHow" "[I"] ++ wsX50)
def wsX5_in : List Cond := .code yX5_in cX5_in 3 (some .boolean) :: ([])
def wsX5_isSession : List Cond := .code yX5_isSession cX5_isSession 1 (some .boolean) :: ([.methodLink RX5 53 yX5_in, .static yX5_in, .initialized RX5, .code yX5_in cX5_in 3 (some .boolean)])
def wsX5_isRunning : List Cond := .code yX5_isRunning cX5_isRunning 2 (some .boolean) :: ([.fieldLink RX5 57 "LockDeskModel" "given" "I", .fieldLink RX5 16 "LockDeskModel" "runs" "[Z", .methodLink RX5 53 yX5_in, .static yX5_in, .initialized RX5, .code yX5_in cX5_in 3 (some .boolean)] ++ wsX50)
def wsX5_conflicts : List Cond := .code yX5_conflicts cX5_conflicts 3 (some .boolean) :: ([.fieldLink RX5 7 "LockDeskModel" "against" "[I"] ++ wsX50)
def wsX5_number : List Cond := .code yX5_number cX5_number 2 (some .int) :: ([.fieldLink RX5 57 "LockDeskModel" "given" "I", .fieldLink RX5 13 "LockDeskModel" "owner" "[I", .fieldLink RX5 16 "LockDeskModel" "runs" "[Z", .methodLink RX5 61 yX5_isSession, .static yX5_isSession, .initialized RX5, .code yX5_isSession cX5_isSession 1 (some .boolean), .methodLink RX5 53 yX5_in, .static yX5_in, .code yX5_in cX5_in 3 (some .boolean)] ++ wsX50)
def wsX5_over : List Cond := .code yX5_over cX5_over 3 (some .boolean) :: ([.fieldLink RX5 16 "LockDeskModel" "runs" "[Z", .methodLink RX5 65 yX5_isRunning, .instanceMethod yX5_isRunning, .selects RX5 yX5_isRunning yX5_isRunning, .initialized RX5, .code yX5_isRunning cX5_isRunning 2 (some .boolean), .fieldLink RX5 57 "LockDeskModel" "given" "I", .methodLink RX5 53 yX5_in, .static yX5_in, .code yX5_in cX5_in 3 (some .boolean)] ++ wsX50)
def wsX5_holdsAgainst : List Cond := .code yX5_holdsAgainst cX5_holdsAgainst 6 (some .boolean) :: ([.fieldLink RX5 20 "LockDeskModel" "held" "[I", .methodLink RX5 68 yX5_conflicts, .instanceMethod yX5_conflicts, .selects RX5 yX5_conflicts yX5_conflicts, .initialized RX5, .code yX5_conflicts cX5_conflicts 3 (some .boolean), .fieldLink RX5 7 "LockDeskModel" "against" "[I"] ++ wsX50)
def wsX5_inTheWay : List Cond := .code yX5_inTheWay cX5_inTheWay 8 (some .int) :: ([.fieldLink RX5 23 "LockDeskModel" "kind" "[I", .fieldLink RX5 35 "LockDeskModel" "dropped" "[Z", .fieldLink RX5 26 "LockDeskModel" "table" "[I", .fieldLink RX5 29 "LockDeskModel" "mode" "[I", .fieldLink RX5 41 "LockDeskModel" "began" "[I", .methodLink RX5 68 yX5_conflicts, .instanceMethod yX5_conflicts, .selects RX5 yX5_conflicts yX5_conflicts, .initialized RX5, .code yX5_conflicts cX5_conflicts 3 (some .boolean), .fieldLink RX5 7 "LockDeskModel" "against" "[I", .methodLink RX5 72 yX5_holdsAgainst, .instanceMethod yX5_holdsAgainst, .selects RX5 yX5_holdsAgainst yX5_holdsAgainst, .code yX5_holdsAgainst cX5_holdsAgainst 6 (some .boolean), .fieldLink RX5 20 "LockDeskModel" "held" "[I"] ++ wsX50)
def wsX5_waitsOn : List Cond := .code yX5_waitsOn cX5_waitsOn 2 (some .int) :: ([.fieldLink RX5 23 "LockDeskModel" "kind" "[I", .fieldLink RX5 16 "LockDeskModel" "runs" "[Z", .fieldLink RX5 38 "LockDeskModel" "number" "[I", .fieldLink RX5 13 "LockDeskModel" "owner" "[I", .fieldLink RX5 35 "LockDeskModel" "dropped" "[Z", .fieldLink RX5 26 "LockDeskModel" "table" "[I", .fieldLink RX5 29 "LockDeskModel" "mode" "[I", .fieldLink RX5 41 "LockDeskModel" "began" "[I", .methodLink RX5 75 yX5_inTheWay, .instanceMethod yX5_inTheWay, .selects RX5 yX5_inTheWay yX5_inTheWay, .initialized RX5, .code yX5_inTheWay cX5_inTheWay 8 (some .int), .methodLink RX5 68 yX5_conflicts, .instanceMethod yX5_conflicts, .selects RX5 yX5_conflicts yX5_conflicts, .code yX5_conflicts cX5_conflicts 3 (some .boolean), .fieldLink RX5 7 "LockDeskModel" "against" "[I", .methodLink RX5 72 yX5_holdsAgainst, .instanceMethod yX5_holdsAgainst, .selects RX5 yX5_holdsAgainst yX5_holdsAgainst, .code yX5_holdsAgainst cX5_holdsAgainst 6 (some .boolean), .fieldLink RX5 20 "LockDeskModel" "held" "[I"] ++ wsX50)
def wsX5_leads_r1 : List Cond := [Cond.methodLink RX5 79 yX5_waitsOn, Cond.instanceMethod yX5_waitsOn, Cond.selects RX5 yX5_waitsOn yX5_waitsOn, Cond.initialized RX5, Cond.code yX5_waitsOn cX5_waitsOn 2 (some .int), Cond.fieldLink RX5 23 "LockDeskModel" "kind" "[I", Cond.fieldLink RX5 16 "LockDeskModel" "runs" "[Z", Cond.fieldLink RX5 38 "LockDeskModel" "number" "[I", Cond.fieldLink RX5 13 "LockDeskModel" "owner" "[I", Cond.fieldLink RX5 35 "LockDeskModel" "dropped" "[Z", Cond.fieldLink RX5 26 "LockDeskModel" "table" "[I", Cond.fieldLink RX5 29 "LockDeskModel" "mode" "[I", Cond.fieldLink RX5 41 "LockDeskModel" "began" "[I", Cond.methodLink RX5 75 yX5_inTheWay, Cond.instanceMethod yX5_inTheWay, Cond.selects RX5 yX5_inTheWay yX5_inTheWay, Cond.code yX5_inTheWay cX5_inTheWay 8 (some .int), Cond.methodLink RX5 68 yX5_conflicts, Cond.instanceMethod yX5_conflicts, Cond.selects RX5 yX5_conflicts yX5_conflicts, Cond.code yX5_conflicts cX5_conflicts 3 (some .boolean), Cond.fieldLink RX5 7 "LockDeskModel" "against" "[I", Cond.methodLink RX5 72 yX5_holdsAgainst, Cond.instanceMethod yX5_holdsAgainst]
def wsX5_leads_r2 : List Cond := [Cond.selects RX5 yX5_holdsAgainst yX5_holdsAgainst, Cond.code yX5_holdsAgainst cX5_holdsAgainst 6 (some .boolean), Cond.fieldLink RX5 20 "LockDeskModel" "held" "[I"]
def wsX5_leads : List Cond := .code yX5_leads cX5_leads 7 (some .boolean) :: ((wsX5_leads_r1 ++ wsX5_leads_r2) ++ wsX50)
def wsX5_begin : List Cond := .code yX5_begin cX5_begin 3 none :: ([.fieldLink RX5 23 "LockDeskModel" "kind" "[I", .fieldLink RX5 83 "LockDeskModel" "time" "I", .fieldLink RX5 41 "LockDeskModel" "began" "[I"] ++ wsX50)
def wsX5_ask_r1 : List Cond := [Cond.fieldLink RX5 23 "LockDeskModel" "kind" "[I", Cond.fieldLink RX5 20 "LockDeskModel" "held" "[I", Cond.fieldLink RX5 83 "LockDeskModel" "time" "I", Cond.fieldLink RX5 26 "LockDeskModel" "table" "[I", Cond.fieldLink RX5 29 "LockDeskModel" "mode" "[I", Cond.fieldLink RX5 32 "LockDeskModel" "level" "[I", Cond.fieldLink RX5 35 "LockDeskModel" "dropped" "[Z", Cond.methodLink RX5 61 yX5_isSession, Cond.static yX5_isSession, Cond.initialized RX5, Cond.code yX5_isSession cX5_isSession 1 (some .boolean), Cond.methodLink RX5 53 yX5_in, Cond.static yX5_in, Cond.code yX5_in cX5_in 3 (some .boolean), Cond.methodLink RX5 75 yX5_inTheWay, Cond.instanceMethod yX5_inTheWay, Cond.selects RX5 yX5_inTheWay yX5_inTheWay, Cond.code yX5_inTheWay cX5_inTheWay 8 (some .int), Cond.fieldLink RX5 41 "LockDeskModel" "began" "[I", Cond.methodLink RX5 68 yX5_conflicts, Cond.instanceMethod yX5_conflicts, Cond.selects RX5 yX5_conflicts yX5_conflicts, Cond.code yX5_conflicts cX5_conflicts 3 (some .boolean), Cond.fieldLink RX5 7 "LockDeskModel" "against" "[I"]
def wsX5_ask_r2 : List Cond := [Cond.methodLink RX5 72 yX5_holdsAgainst, Cond.instanceMethod yX5_holdsAgainst, Cond.selects RX5 yX5_holdsAgainst yX5_holdsAgainst, Cond.code yX5_holdsAgainst cX5_holdsAgainst 6 (some .boolean), Cond.methodLink RX5 86 yX5_leads, Cond.instanceMethod yX5_leads, Cond.selects RX5 yX5_leads yX5_leads, Cond.code yX5_leads cX5_leads 7 (some .boolean), Cond.methodLink RX5 79 yX5_waitsOn, Cond.instanceMethod yX5_waitsOn, Cond.selects RX5 yX5_waitsOn yX5_waitsOn, Cond.code yX5_waitsOn cX5_waitsOn 2 (some .int), Cond.fieldLink RX5 16 "LockDeskModel" "runs" "[Z", Cond.fieldLink RX5 38 "LockDeskModel" "number" "[I", Cond.fieldLink RX5 13 "LockDeskModel" "owner" "[I", Cond.methodLink RX5 89 yX5_begin, Cond.instanceMethod yX5_begin, Cond.selects RX5 yX5_begin yX5_begin, Cond.code yX5_begin cX5_begin 3 none]
def wsX5_ask : List Cond := .code yX5_ask cX5_ask 7 (some .int) :: ((wsX5_ask_r1 ++ wsX5_ask_r2) ++ wsX50)
def wsX5_shrink : List Cond := .code yX5_shrink cX5_shrink 3 none :: ([.fieldLink RX5 93 "LockDeskModel" "locks" "I", .fieldLink RX5 16 "LockDeskModel" "runs" "[Z", .fieldLink RX5 47 "LockDeskModel" "lockBy" "[I", .fieldLink RX5 44 "LockDeskModel" "lockRow" "[I", .fieldLink RX5 50 "LockDeskModel" "lockHow" "[I"] ++ wsX50)
def wsX5_lock : List Cond := .code yX5_lock cX5_lock 10 (some .int) :: ([.fieldLink RX5 23 "LockDeskModel" "kind" "[I", .fieldLink RX5 13 "LockDeskModel" "owner" "[I", .fieldLink RX5 93 "LockDeskModel" "locks" "I", .fieldLink RX5 44 "LockDeskModel" "lockRow" "[I", .fieldLink RX5 47 "LockDeskModel" "lockBy" "[I", .fieldLink RX5 50 "LockDeskModel" "lockHow" "[I", .methodLink RX5 65 yX5_isRunning, .instanceMethod yX5_isRunning, .selects RX5 yX5_isRunning yX5_isRunning, .initialized RX5, .code yX5_isRunning cX5_isRunning 2 (some .boolean), .fieldLink RX5 57 "LockDeskModel" "given" "I", .fieldLink RX5 16 "LockDeskModel" "runs" "[Z", .methodLink RX5 53 yX5_in, .static yX5_in, .code yX5_in cX5_in 3 (some .boolean), .methodLink RX5 96 yX5_shrink, .instanceMethod yX5_shrink, .selects RX5 yX5_shrink yX5_shrink, .code yX5_shrink cX5_shrink 3 none] ++ wsX50)
def wsX5_clear : List Cond := .code yX5_clear cX5_clear 4 (some .boolean) :: ([.fieldLink RX5 93 "LockDeskModel" "locks" "I", .fieldLink RX5 44 "LockDeskModel" "lockRow" "[I", .fieldLink RX5 47 "LockDeskModel" "lockBy" "[I", .fieldLink RX5 50 "LockDeskModel" "lockHow" "[I", .methodLink RX5 53 yX5_in, .static yX5_in, .initialized RX5, .code yX5_in cX5_in 3 (some .boolean)] ++ wsX50)
def wsX5_locker : List Cond := .code yX5_locker cX5_locker 8 (some .int) :: ([.fieldLink RX5 93 "LockDeskModel" "locks" "I", .fieldLink RX5 44 "LockDeskModel" "lockRow" "[I", .fieldLink RX5 16 "LockDeskModel" "runs" "[Z", .fieldLink RX5 47 "LockDeskModel" "lockBy" "[I", .fieldLink RX5 50 "LockDeskModel" "lockHow" "[I"] ++ wsX50)
def wsX5_await_r1 : List Cond := [Cond.fieldLink RX5 57 "LockDeskModel" "given" "I", Cond.fieldLink RX5 23 "LockDeskModel" "kind" "[I", Cond.fieldLink RX5 16 "LockDeskModel" "runs" "[Z", Cond.fieldLink RX5 13 "LockDeskModel" "owner" "[I", Cond.fieldLink RX5 38 "LockDeskModel" "number" "[I", Cond.methodLink RX5 61 yX5_isSession, Cond.static yX5_isSession, Cond.initialized RX5, Cond.code yX5_isSession cX5_isSession 1 (some .boolean), Cond.methodLink RX5 53 yX5_in, Cond.static yX5_in, Cond.code yX5_in cX5_in 3 (some .boolean), Cond.methodLink RX5 86 yX5_leads, Cond.instanceMethod yX5_leads, Cond.selects RX5 yX5_leads yX5_leads, Cond.code yX5_leads cX5_leads 7 (some .boolean), Cond.methodLink RX5 79 yX5_waitsOn, Cond.instanceMethod yX5_waitsOn, Cond.selects RX5 yX5_waitsOn yX5_waitsOn, Cond.code yX5_waitsOn cX5_waitsOn 2 (some .int), Cond.fieldLink RX5 35 "LockDeskModel" "dropped" "[Z", Cond.fieldLink RX5 26 "LockDeskModel" "table" "[I", Cond.fieldLink RX5 29 "LockDeskModel" "mode" "[I", Cond.fieldLink RX5 41 "LockDeskModel" "began" "[I"]
def wsX5_await_r2 : List Cond := [Cond.methodLink RX5 75 yX5_inTheWay, Cond.instanceMethod yX5_inTheWay, Cond.selects RX5 yX5_inTheWay yX5_inTheWay, Cond.code yX5_inTheWay cX5_inTheWay 8 (some .int), Cond.methodLink RX5 68 yX5_conflicts, Cond.instanceMethod yX5_conflicts, Cond.selects RX5 yX5_conflicts yX5_conflicts, Cond.code yX5_conflicts cX5_conflicts 3 (some .boolean), Cond.fieldLink RX5 7 "LockDeskModel" "against" "[I", Cond.methodLink RX5 72 yX5_holdsAgainst, Cond.instanceMethod yX5_holdsAgainst, Cond.selects RX5 yX5_holdsAgainst yX5_holdsAgainst, Cond.code yX5_holdsAgainst cX5_holdsAgainst 6 (some .boolean), Cond.fieldLink RX5 20 "LockDeskModel" "held" "[I", Cond.methodLink RX5 89 yX5_begin, Cond.instanceMethod yX5_begin, Cond.selects RX5 yX5_begin yX5_begin, Cond.code yX5_begin cX5_begin 3 none, Cond.fieldLink RX5 83 "LockDeskModel" "time" "I"]
def wsX5_await : List Cond := .code yX5_await cX5_await 3 (some .int) :: ((wsX5_await_r1 ++ wsX5_await_r2) ++ wsX50)
def wsX5_waiting : List Cond := .code yX5_waiting cX5_waiting 6 (some .int) :: ([.fieldLink RX5 23 "LockDeskModel" "kind" "[I", .fieldLink RX5 41 "LockDeskModel" "began" "[I"] ++ wsX50)
def wsX5_next_r1 : List Cond := [Cond.fieldLink RX5 23 "LockDeskModel" "kind" "[I", Cond.fieldLink RX5 35 "LockDeskModel" "dropped" "[Z", Cond.fieldLink RX5 20 "LockDeskModel" "held" "[I", Cond.fieldLink RX5 26 "LockDeskModel" "table" "[I", Cond.fieldLink RX5 29 "LockDeskModel" "mode" "[I", Cond.fieldLink RX5 32 "LockDeskModel" "level" "[I", Cond.methodLink RX5 99 yX5_waiting, Cond.instanceMethod yX5_waiting, Cond.selects RX5 yX5_waiting yX5_waiting, Cond.initialized RX5, Cond.code yX5_waiting cX5_waiting 6 (some .int), Cond.fieldLink RX5 41 "LockDeskModel" "began" "[I", Cond.methodLink RX5 79 yX5_waitsOn, Cond.instanceMethod yX5_waitsOn, Cond.selects RX5 yX5_waitsOn yX5_waitsOn, Cond.code yX5_waitsOn cX5_waitsOn 2 (some .int), Cond.fieldLink RX5 16 "LockDeskModel" "runs" "[Z", Cond.fieldLink RX5 38 "LockDeskModel" "number" "[I", Cond.fieldLink RX5 13 "LockDeskModel" "owner" "[I", Cond.methodLink RX5 75 yX5_inTheWay, Cond.instanceMethod yX5_inTheWay, Cond.selects RX5 yX5_inTheWay yX5_inTheWay, Cond.code yX5_inTheWay cX5_inTheWay 8 (some .int), Cond.methodLink RX5 68 yX5_conflicts]
def wsX5_next_r2 : List Cond := [Cond.instanceMethod yX5_conflicts, Cond.selects RX5 yX5_conflicts yX5_conflicts, Cond.code yX5_conflicts cX5_conflicts 3 (some .boolean), Cond.fieldLink RX5 7 "LockDeskModel" "against" "[I", Cond.methodLink RX5 72 yX5_holdsAgainst, Cond.instanceMethod yX5_holdsAgainst, Cond.selects RX5 yX5_holdsAgainst yX5_holdsAgainst, Cond.code yX5_holdsAgainst cX5_holdsAgainst 6 (some .boolean)]
def wsX5_next : List Cond := .code yX5_next cX5_next 4 (some .int) :: ((wsX5_next_r1 ++ wsX5_next_r2) ++ wsX50)
def wsX5_cancel : List Cond := .code yX5_cancel cX5_cancel 3 (some .boolean) :: ([.fieldLink RX5 23 "LockDeskModel" "kind" "[I", .methodLink RX5 61 yX5_isSession, .static yX5_isSession, .initialized RX5, .code yX5_isSession cX5_isSession 1 (some .boolean), .methodLink RX5 53 yX5_in, .static yX5_in, .code yX5_in cX5_in 3 (some .boolean)] ++ wsX50)
def wsX5_end : List Cond := .code yX5_end cX5_end 4 (some .boolean) :: ([.fieldLink RX5 20 "LockDeskModel" "held" "[I", .methodLink RX5 61 yX5_isSession, .static yX5_isSession, .initialized RX5, .code yX5_isSession cX5_isSession 1 (some .boolean), .methodLink RX5 53 yX5_in, .static yX5_in, .code yX5_in cX5_in 3 (some .boolean)] ++ wsX50)
def wsX5_release : List Cond := .code yX5_release cX5_release 4 (some .boolean) :: ([.fieldLink RX5 20 "LockDeskModel" "held" "[I", .fieldLink RX5 32 "LockDeskModel" "level" "[I", .methodLink RX5 61 yX5_isSession, .static yX5_isSession, .initialized RX5, .code yX5_isSession cX5_isSession 1 (some .boolean), .methodLink RX5 53 yX5_in, .static yX5_in, .code yX5_in cX5_in 3 (some .boolean)] ++ wsX50)
def wsX5_drop : List Cond := .code yX5_drop cX5_drop 4 (some .boolean) :: ([.fieldLink RX5 20 "LockDeskModel" "held" "[I", .fieldLink RX5 35 "LockDeskModel" "dropped" "[Z", .fieldLink RX5 23 "LockDeskModel" "kind" "[I", .fieldLink RX5 26 "LockDeskModel" "table" "[I", .methodLink RX5 53 yX5_in, .static yX5_in, .initialized RX5, .code yX5_in cX5_in 3 (some .boolean)] ++ wsX50)
def wsX5_holds : List Cond := .code yX5_holds cX5_holds 4 (some .int) :: ([.fieldLink RX5 20 "LockDeskModel" "held" "[I", .methodLink RX5 61 yX5_isSession, .static yX5_isSession, .initialized RX5, .code yX5_isSession cX5_isSession 1 (some .boolean), .methodLink RX5 53 yX5_in, .static yX5_in, .code yX5_in cX5_in 3 (some .boolean)] ++ wsX50)
def wsX5_on_r1 : List Cond := [Cond.methodLink RX5 61 yX5_isSession, Cond.static yX5_isSession, Cond.initialized RX5, Cond.code yX5_isSession cX5_isSession 1 (some .boolean), Cond.methodLink RX5 53 yX5_in, Cond.static yX5_in, Cond.code yX5_in cX5_in 3 (some .boolean), Cond.methodLink RX5 79 yX5_waitsOn, Cond.instanceMethod yX5_waitsOn, Cond.selects RX5 yX5_waitsOn yX5_waitsOn, Cond.code yX5_waitsOn cX5_waitsOn 2 (some .int), Cond.fieldLink RX5 23 "LockDeskModel" "kind" "[I", Cond.fieldLink RX5 16 "LockDeskModel" "runs" "[Z", Cond.fieldLink RX5 38 "LockDeskModel" "number" "[I", Cond.fieldLink RX5 13 "LockDeskModel" "owner" "[I", Cond.fieldLink RX5 35 "LockDeskModel" "dropped" "[Z", Cond.fieldLink RX5 26 "LockDeskModel" "table" "[I", Cond.fieldLink RX5 29 "LockDeskModel" "mode" "[I", Cond.fieldLink RX5 41 "LockDeskModel" "began" "[I", Cond.methodLink RX5 75 yX5_inTheWay, Cond.instanceMethod yX5_inTheWay, Cond.selects RX5 yX5_inTheWay yX5_inTheWay, Cond.code yX5_inTheWay cX5_inTheWay 8 (some .int), Cond.methodLink RX5 68 yX5_conflicts]
def wsX5_on_r2 : List Cond := [Cond.instanceMethod yX5_conflicts, Cond.selects RX5 yX5_conflicts yX5_conflicts, Cond.code yX5_conflicts cX5_conflicts 3 (some .boolean), Cond.fieldLink RX5 7 "LockDeskModel" "against" "[I", Cond.methodLink RX5 72 yX5_holdsAgainst, Cond.instanceMethod yX5_holdsAgainst, Cond.selects RX5 yX5_holdsAgainst yX5_holdsAgainst, Cond.code yX5_holdsAgainst cX5_holdsAgainst 6 (some .boolean), Cond.fieldLink RX5 20 "LockDeskModel" "held" "[I"]
def wsX5_on : List Cond := .code yX5_on cX5_on 2 (some .int) :: ((wsX5_on_r1 ++ wsX5_on_r2) ++ wsX50)
def wsX5_wish : List Cond := .code yX5_wish cX5_wish 2 (some .int) :: ([.fieldLink RX5 23 "LockDeskModel" "kind" "[I", .fieldLink RX5 38 "LockDeskModel" "number" "[I", .fieldLink RX5 26 "LockDeskModel" "table" "[I", .fieldLink RX5 29 "LockDeskModel" "mode" "[I", .fieldLink RX5 35 "LockDeskModel" "dropped" "[Z", .methodLink RX5 61 yX5_isSession, .static yX5_isSession, .initialized RX5, .code yX5_isSession cX5_isSession 1 (some .boolean), .methodLink RX5 53 yX5_in, .static yX5_in, .code yX5_in cX5_in 3 (some .boolean)] ++ wsX50)
theorem inJ7 : ∀ w ∈ wsJ70, w ∈ lw_tbl := by decide +kernel
abbrev vwCl : List vw_C := [(RX0, TX0, 1), (RX1, TX1, 2), (RX2, TX2, 7), (RX3, TX3, 5), (RX4, TX4, 4), (RX5, TX5, 17)]
end
section
set_option maxRecDepth 20000 in
theorem ggX0_init_J7_fill_031fb : GoodIn wsX0_init wsJ7_fill_031fb := goodIn_r _ [9] (by decide +kernel) (by decide +kernel)
set_option maxRecDepth 20000 in
theorem gX0_init_J7_fill_031fb : GoodIn wsX0_init (va_wsS RX0 15 yJ7_fill_031fb wsJ7_fill_031fb) := goodIn_app (goodIn_of _ (by decide +kernel)) ggX0_init_J7_fill_031fb
theorem dX0_init_0 : decode cX0_init 0 = .ok (.aload_n 0, 1) := by decide +kernel
theorem dX0_init_1 : decode cX0_init 1 = .ok (.invokespecial 3, 3) := by decide +kernel
theorem dX0_init_4 : decode cX0_init 4 = .ok (.aload_n 0, 1) := by decide +kernel
theorem dX0_init_5 : decode cX0_init 5 = .ok (.sipush 384, 3) := by decide +kernel
theorem dX0_init_8 : decode cX0_init 8 = .ok (.newarray .byte, 2) := by decide +kernel
theorem dX0_init_10 : decode cX0_init 10 = .ok (.putfield 11, 3) := by decide +kernel
theorem dX0_init_13 : decode cX0_init 13 = .ok (.aload_n 0, 1) := by decide +kernel
theorem dX0_init_14 : decode cX0_init 14 = .ok (.getfield 11, 3) := by decide +kernel
theorem dX0_init_17 : decode cX0_init 17 = .ok (.iconst (-1), 1) := by decide +kernel
theorem dX0_init_18 : decode cX0_init 18 = .ok (.invokestatic 15, 3) := by decide +kernel
theorem dX0_init_21 : decode cX0_init 21 = .ok (.return_, 1) := by decide +kernel
set_option maxRecDepth 20000 in
theorem ggX0_levelOf_X0_cell : GoodIn wsX0_levelOf wsX0_cell := goodIn_r _ [5] (by decide +kernel) (by decide +kernel)
set_option maxRecDepth 20000 in
theorem gX0_levelOf_X0_cell : GoodIn wsX0_levelOf (va_wsS RX0 21 yX0_cell wsX0_cell) := goodIn_app (goodIn_of _ (by decide +kernel)) ggX0_levelOf_X0_cell
theorem dX0_levelOf_0 : decode cX0_levelOf 0 = .ok (.aload_n 0, 1) := by decide +kernel
theorem dX0_levelOf_1 : decode cX0_levelOf 1 = .ok (.getfield 11, 3) := by decide +kernel
theorem dX0_levelOf_4 : decode cX0_levelOf 4 = .ok (.iload_n 1, 1) := by decide +kernel
theorem dX0_levelOf_5 : decode cX0_levelOf 5 = .ok (.iload_n 2, 1) := by decide +kernel
theorem dX0_levelOf_6 : decode cX0_levelOf 6 = .ok (.iload_n 3, 1) := by decide +kernel
theorem dX0_levelOf_7 : decode cX0_levelOf 7 = .ok (.invokestatic 21, 3) := by decide +kernel
theorem dX0_levelOf_10 : decode cX0_levelOf 10 = .ok (.baload, 1) := by decide +kernel
theorem dX0_levelOf_11 : decode cX0_levelOf 11 = .ok (.ireturn, 1) := by decide +kernel
set_option maxRecDepth 20000 in
theorem ggX0_take_X0_cell : GoodIn wsX0_take wsX0_cell := goodIn_r _ [5] (by decide +kernel) (by decide +kernel)
set_option maxRecDepth 20000 in
theorem gX0_take_X0_cell : GoodIn wsX0_take (va_wsS RX0 21 yX0_cell wsX0_cell) := goodIn_app (goodIn_of _ (by decide +kernel)) ggX0_take_X0_cell
theorem dX0_take_0 : decode cX0_take 0 = .ok (.aload_n 0, 1) := by decide +kernel
theorem dX0_take_1 : decode cX0_take 1 = .ok (.getfield 11, 3) := by decide +kernel
theorem dX0_take_4 : decode cX0_take 4 = .ok (.iload_n 1, 1) := by decide +kernel
theorem dX0_take_5 : decode cX0_take 5 = .ok (.iload_n 3, 1) := by decide +kernel
theorem dX0_take_6 : decode cX0_take 6 = .ok (.iload 4, 2) := by decide +kernel
theorem dX0_take_8 : decode cX0_take 8 = .ok (.invokestatic 21, 3) := by decide +kernel
theorem dX0_take_11 : decode cX0_take 11 = .ok (.iload_n 2, 1) := by decide +kernel
theorem dX0_take_12 : decode cX0_take 12 = .ok (.i2b, 1) := by decide +kernel
theorem dX0_take_13 : decode cX0_take 13 = .ok (.bastore, 1) := by decide +kernel
theorem dX0_take_14 : decode cX0_take 14 = .ok (.return_, 1) := by decide +kernel
set_option maxRecDepth 20000 in
theorem ggX0_standAgainst_X4_conflict : GoodIn wsX0_standAgainst wsX4_conflict := goodIn_r _ [4, 5, 6, 7, 3, 8] (by decide +kernel) (by decide +kernel)
set_option maxRecDepth 20000 in
theorem gX0_standAgainst_X4_conflict_n25 : GoodIn wsX0_standAgainst (wsX4_conflict) := ggX0_standAgainst_X4_conflict
set_option maxRecDepth 20000 in
theorem ggX0_standAgainst_X0_cell : GoodIn wsX0_standAgainst wsX0_cell := goodIn_r _ [12] (by decide +kernel) (by decide +kernel)
set_option maxRecDepth 20000 in
theorem gX0_standAgainst_X0_cell : GoodIn wsX0_standAgainst (va_wsS RX0 21 yX0_cell wsX0_cell) := goodIn_app (goodIn_of _ (by decide +kernel)) ggX0_standAgainst_X0_cell
theorem dX0_standAgainst_0 : decode cX0_standAgainst 0 = .ok (.iconst 1, 1) := by decide +kernel
theorem dX0_standAgainst_1 : decode cX0_standAgainst 1 = .ok (.istore 4, 2) := by decide +kernel
theorem dX0_standAgainst_3 : decode cX0_standAgainst 3 = .ok (.iload 4, 2) := by decide +kernel
theorem dX0_standAgainst_5 : decode cX0_standAgainst 5 = .ok (.bipush 8, 2) := by decide +kernel
theorem dX0_standAgainst_7 : decode cX0_standAgainst 7 = .ok (.if_icmp .gt 36, 3) := by decide +kernel
theorem dX0_standAgainst_10 : decode cX0_standAgainst 10 = .ok (.iload_n 3, 1) := by decide +kernel
theorem dX0_standAgainst_11 : decode cX0_standAgainst 11 = .ok (.iload 4, 2) := by decide +kernel
theorem dX0_standAgainst_13 : decode cX0_standAgainst 13 = .ok (.invokestatic 25, 3) := by decide +kernel
theorem dX0_standAgainst_16 : decode cX0_standAgainst 16 = .ok (.ifCond .eq 21, 3) := by decide +kernel
theorem dX0_standAgainst_19 : decode cX0_standAgainst 19 = .ok (.aload_n 0, 1) := by decide +kernel
theorem dX0_standAgainst_20 : decode cX0_standAgainst 20 = .ok (.getfield 11, 3) := by decide +kernel
theorem dX0_standAgainst_23 : decode cX0_standAgainst 23 = .ok (.iload_n 1, 1) := by decide +kernel
theorem dX0_standAgainst_24 : decode cX0_standAgainst 24 = .ok (.iload_n 2, 1) := by decide +kernel
theorem dX0_standAgainst_25 : decode cX0_standAgainst 25 = .ok (.iload 4, 2) := by decide +kernel
theorem dX0_standAgainst_27 : decode cX0_standAgainst 27 = .ok (.invokestatic 21, 3) := by decide +kernel
theorem dX0_standAgainst_30 : decode cX0_standAgainst 30 = .ok (.baload, 1) := by decide +kernel
theorem dX0_standAgainst_31 : decode cX0_standAgainst 31 = .ok (.iconst (-1), 1) := by decide +kernel
theorem dX0_standAgainst_32 : decode cX0_standAgainst 32 = .ok (.if_icmp .eq 5, 3) := by decide +kernel
theorem dX0_standAgainst_35 : decode cX0_standAgainst 35 = .ok (.iconst 1, 1) := by decide +kernel
theorem dX0_standAgainst_36 : decode cX0_standAgainst 36 = .ok (.ireturn, 1) := by decide +kernel
theorem dX0_standAgainst_37 : decode cX0_standAgainst 37 = .ok (.iinc 4 1, 3) := by decide +kernel
theorem dX0_standAgainst_40 : decode cX0_standAgainst 40 = .ok (.goto (-37), 3) := by decide +kernel
theorem dX0_standAgainst_43 : decode cX0_standAgainst 43 = .ok (.iconst 0, 1) := by decide +kernel
theorem dX0_standAgainst_44 : decode cX0_standAgainst 44 = .ok (.ireturn, 1) := by decide +kernel
set_option maxRecDepth 20000 in
theorem ggX0_giveUp_X0_replaceFrom : GoodIn wsX0_giveUp wsX0_replaceFrom := goodIn_r _ [5, 6, 7, 8, 4, 9, 10] (by decide +kernel) (by decide +kernel)
set_option maxRecDepth 20000 in
theorem gX0_giveUp_X0_replaceFrom : GoodIn wsX0_giveUp (wsV RX0 29 RX0 yX0_replaceFrom wsX0_replaceFrom) := goodIn_app (goodIn_of _ (by decide +kernel)) ggX0_giveUp_X0_replaceFrom
theorem dX0_giveUp_0 : decode cX0_giveUp 0 = .ok (.aload_n 0, 1) := by decide +kernel
theorem dX0_giveUp_1 : decode cX0_giveUp 1 = .ok (.iload_n 1, 1) := by decide +kernel
theorem dX0_giveUp_2 : decode cX0_giveUp 2 = .ok (.iload_n 2, 1) := by decide +kernel
theorem dX0_giveUp_3 : decode cX0_giveUp 3 = .ok (.iconst (-1), 1) := by decide +kernel
theorem dX0_giveUp_4 : decode cX0_giveUp 4 = .ok (.invokevirtual 29, 3) := by decide +kernel
theorem dX0_giveUp_7 : decode cX0_giveUp 7 = .ok (.return_, 1) := by decide +kernel
set_option maxRecDepth 20000 in
theorem ggX0_lower_X0_replaceFrom : GoodIn wsX0_lower wsX0_replaceFrom := goodIn_r _ [5, 6, 7, 8, 4, 9, 10] (by decide +kernel) (by decide +kernel)
set_option maxRecDepth 20000 in
theorem gX0_lower_X0_replaceFrom : GoodIn wsX0_lower (wsV RX0 29 RX0 yX0_replaceFrom wsX0_replaceFrom) := goodIn_app (goodIn_of _ (by decide +kernel)) ggX0_lower_X0_replaceFrom
theorem dX0_lower_0 : decode cX0_lower 0 = .ok (.aload_n 0, 1) := by decide +kernel
theorem dX0_lower_1 : decode cX0_lower 1 = .ok (.iload_n 1, 1) := by decide +kernel
theorem dX0_lower_2 : decode cX0_lower 2 = .ok (.iload_n 2, 1) := by decide +kernel
theorem dX0_lower_3 : decode cX0_lower 3 = .ok (.iload_n 2, 1) := by decide +kernel
theorem dX0_lower_4 : decode cX0_lower 4 = .ok (.iconst 1, 1) := by decide +kernel
theorem dX0_lower_5 : decode cX0_lower 5 = .ok (.isub, 1) := by decide +kernel
theorem dX0_lower_6 : decode cX0_lower 6 = .ok (.invokevirtual 29, 3) := by decide +kernel
theorem dX0_lower_9 : decode cX0_lower 9 = .ok (.return_, 1) := by decide +kernel
set_option maxRecDepth 20000 in
theorem ggX0_forgetTable_X0_cell : GoodIn wsX0_forgetTable wsX0_cell := goodIn_r _ [5] (by decide +kernel) (by decide +kernel)
set_option maxRecDepth 20000 in
theorem gX0_forgetTable_X0_cell : GoodIn wsX0_forgetTable (va_wsS RX0 21 yX0_cell wsX0_cell) := goodIn_app (goodIn_of _ (by decide +kernel)) ggX0_forgetTable_X0_cell
theorem dX0_forgetTable_0 : decode cX0_forgetTable 0 = .ok (.iconst 0, 1) := by decide +kernel
theorem dX0_forgetTable_1 : decode cX0_forgetTable 1 = .ok (.istore_n 2, 1) := by decide +kernel
theorem dX0_forgetTable_2 : decode cX0_forgetTable 2 = .ok (.iload_n 2, 1) := by decide +kernel
theorem dX0_forgetTable_3 : decode cX0_forgetTable 3 = .ok (.bipush 6, 2) := by decide +kernel
theorem dX0_forgetTable_5 : decode cX0_forgetTable 5 = .ok (.if_icmp .ge 35, 3) := by decide +kernel
theorem dX0_forgetTable_8 : decode cX0_forgetTable 8 = .ok (.iconst 1, 1) := by decide +kernel
theorem dX0_forgetTable_9 : decode cX0_forgetTable 9 = .ok (.istore_n 3, 1) := by decide +kernel
theorem dX0_forgetTable_10 : decode cX0_forgetTable 10 = .ok (.iload_n 3, 1) := by decide +kernel
theorem dX0_forgetTable_11 : decode cX0_forgetTable 11 = .ok (.bipush 8, 2) := by decide +kernel
theorem dX0_forgetTable_13 : decode cX0_forgetTable 13 = .ok (.if_icmp .gt 21, 3) := by decide +kernel
theorem dX0_forgetTable_16 : decode cX0_forgetTable 16 = .ok (.aload_n 0, 1) := by decide +kernel
theorem dX0_forgetTable_17 : decode cX0_forgetTable 17 = .ok (.getfield 11, 3) := by decide +kernel
theorem dX0_forgetTable_20 : decode cX0_forgetTable 20 = .ok (.iload_n 2, 1) := by decide +kernel
theorem dX0_forgetTable_21 : decode cX0_forgetTable 21 = .ok (.iload_n 1, 1) := by decide +kernel
theorem dX0_forgetTable_22 : decode cX0_forgetTable 22 = .ok (.iload_n 3, 1) := by decide +kernel
theorem dX0_forgetTable_23 : decode cX0_forgetTable 23 = .ok (.invokestatic 21, 3) := by decide +kernel
theorem dX0_forgetTable_26 : decode cX0_forgetTable 26 = .ok (.iconst (-1), 1) := by decide +kernel
theorem dX0_forgetTable_27 : decode cX0_forgetTable 27 = .ok (.bastore, 1) := by decide +kernel
theorem dX0_forgetTable_28 : decode cX0_forgetTable 28 = .ok (.iinc 3 1, 3) := by decide +kernel
theorem dX0_forgetTable_31 : decode cX0_forgetTable 31 = .ok (.goto (-21), 3) := by decide +kernel
theorem dX0_forgetTable_34 : decode cX0_forgetTable 34 = .ok (.iinc 2 1, 3) := by decide +kernel
theorem dX0_forgetTable_37 : decode cX0_forgetTable 37 = .ok (.goto (-35), 3) := by decide +kernel
theorem dX0_forgetTable_40 : decode cX0_forgetTable 40 = .ok (.return_, 1) := by decide +kernel
set_option maxRecDepth 20000 in
theorem ggX0_replaceFrom_X0_cell : GoodIn wsX0_replaceFrom wsX0_cell := goodIn_r _ [5] (by decide +kernel) (by decide +kernel)
set_option maxRecDepth 20000 in
theorem gX0_replaceFrom_X0_cell : GoodIn wsX0_replaceFrom (va_wsS RX0 21 yX0_cell wsX0_cell) := goodIn_app (goodIn_of _ (by decide +kernel)) ggX0_replaceFrom_X0_cell
theorem dX0_replaceFrom_0 : decode cX0_replaceFrom 0 = .ok (.iload_n 1, 1) := by decide +kernel
theorem dX0_replaceFrom_1 : decode cX0_replaceFrom 1 = .ok (.iconst 0, 1) := by decide +kernel
theorem dX0_replaceFrom_2 : decode cX0_replaceFrom 2 = .ok (.iconst 1, 1) := by decide +kernel
theorem dX0_replaceFrom_3 : decode cX0_replaceFrom 3 = .ok (.invokestatic 21, 3) := by decide +kernel
theorem dX0_replaceFrom_6 : decode cX0_replaceFrom 6 = .ok (.istore 4, 2) := by decide +kernel
theorem dX0_replaceFrom_8 : decode cX0_replaceFrom 8 = .ok (.iload 4, 2) := by decide +kernel
theorem dX0_replaceFrom_10 : decode cX0_replaceFrom 10 = .ok (.istore 5, 2) := by decide +kernel
theorem dX0_replaceFrom_12 : decode cX0_replaceFrom 12 = .ok (.iload 5, 2) := by decide +kernel
theorem dX0_replaceFrom_14 : decode cX0_replaceFrom 14 = .ok (.iload 4, 2) := by decide +kernel
theorem dX0_replaceFrom_16 : decode cX0_replaceFrom 16 = .ok (.bipush 64, 2) := by decide +kernel
theorem dX0_replaceFrom_18 : decode cX0_replaceFrom 18 = .ok (.iadd, 1) := by decide +kernel
theorem dX0_replaceFrom_19 : decode cX0_replaceFrom 19 = .ok (.if_icmp .ge 29, 3) := by decide +kernel
theorem dX0_replaceFrom_22 : decode cX0_replaceFrom 22 = .ok (.aload_n 0, 1) := by decide +kernel
theorem dX0_replaceFrom_23 : decode cX0_replaceFrom 23 = .ok (.getfield 11, 3) := by decide +kernel
theorem dX0_replaceFrom_26 : decode cX0_replaceFrom 26 = .ok (.iload 5, 2) := by decide +kernel
theorem dX0_replaceFrom_28 : decode cX0_replaceFrom 28 = .ok (.baload, 1) := by decide +kernel
theorem dX0_replaceFrom_29 : decode cX0_replaceFrom 29 = .ok (.iload_n 2, 1) := by decide +kernel
theorem dX0_replaceFrom_30 : decode cX0_replaceFrom 30 = .ok (.if_icmp .lt 12, 3) := by decide +kernel
theorem dX0_replaceFrom_33 : decode cX0_replaceFrom 33 = .ok (.aload_n 0, 1) := by decide +kernel
theorem dX0_replaceFrom_34 : decode cX0_replaceFrom 34 = .ok (.getfield 11, 3) := by decide +kernel
theorem dX0_replaceFrom_37 : decode cX0_replaceFrom 37 = .ok (.iload 5, 2) := by decide +kernel
theorem dX0_replaceFrom_39 : decode cX0_replaceFrom 39 = .ok (.iload_n 3, 1) := by decide +kernel
theorem dX0_replaceFrom_40 : decode cX0_replaceFrom 40 = .ok (.i2b, 1) := by decide +kernel
theorem dX0_replaceFrom_41 : decode cX0_replaceFrom 41 = .ok (.bastore, 1) := by decide +kernel
theorem dX0_replaceFrom_42 : decode cX0_replaceFrom 42 = .ok (.iinc 5 1, 3) := by decide +kernel
theorem dX0_replaceFrom_45 : decode cX0_replaceFrom 45 = .ok (.goto (-33), 3) := by decide +kernel
theorem dX0_replaceFrom_48 : decode cX0_replaceFrom 48 = .ok (.return_, 1) := by decide +kernel
theorem dX0_cell_0 : decode cX0_cell 0 = .ok (.iload_n 0, 1) := by decide +kernel
theorem dX0_cell_1 : decode cX0_cell 1 = .ok (.bipush 64, 2) := by decide +kernel
theorem dX0_cell_3 : decode cX0_cell 3 = .ok (.imul, 1) := by decide +kernel
theorem dX0_cell_4 : decode cX0_cell 4 = .ok (.iload_n 1, 1) := by decide +kernel
theorem dX0_cell_5 : decode cX0_cell 5 = .ok (.bipush 8, 2) := by decide +kernel
theorem dX0_cell_7 : decode cX0_cell 7 = .ok (.imul, 1) := by decide +kernel
theorem dX0_cell_8 : decode cX0_cell 8 = .ok (.iadd, 1) := by decide +kernel
theorem dX0_cell_9 : decode cX0_cell 9 = .ok (.iload_n 2, 1) := by decide +kernel
theorem dX0_cell_10 : decode cX0_cell 10 = .ok (.iadd, 1) := by decide +kernel
theorem dX0_cell_11 : decode cX0_cell 11 = .ok (.iconst 1, 1) := by decide +kernel
theorem dX0_cell_12 : decode cX0_cell 12 = .ok (.isub, 1) := by decide +kernel
theorem dX0_cell_13 : decode cX0_cell 13 = .ok (.ireturn, 1) := by decide +kernel
theorem dX1_init_0 : decode cX1_init 0 = .ok (.aload_n 0, 1) := by decide +kernel
theorem dX1_init_1 : decode cX1_init 1 = .ok (.invokespecial 3, 3) := by decide +kernel
theorem dX1_init_4 : decode cX1_init 4 = .ok (.aload_n 0, 1) := by decide +kernel
theorem dX1_init_5 : decode cX1_init 5 = .ok (.sipush 4001, 3) := by decide +kernel
theorem dX1_init_8 : decode cX1_init 8 = .ok (.newarray .byte, 2) := by decide +kernel
theorem dX1_init_10 : decode cX1_init 10 = .ok (.putfield 9, 3) := by decide +kernel
theorem dX1_init_13 : decode cX1_init 13 = .ok (.aload_n 0, 1) := by decide +kernel
theorem dX1_init_14 : decode cX1_init 14 = .ok (.iconst 0, 1) := by decide +kernel
theorem dX1_init_15 : decode cX1_init 15 = .ok (.putfield 15, 3) := by decide +kernel
theorem dX1_init_18 : decode cX1_init 18 = .ok (.return_, 1) := by decide +kernel
theorem dX1_give_0 : decode cX1_give 0 = .ok (.aload_n 0, 1) := by decide +kernel
theorem dX1_give_1 : decode cX1_give 1 = .ok (.getfield 15, 3) := by decide +kernel
theorem dX1_give_4 : decode cX1_give 4 = .ok (.sipush 4000, 3) := by decide +kernel
theorem dX1_give_7 : decode cX1_give 7 = .ok (.if_icmp .lt 5, 3) := by decide +kernel
theorem dX1_give_10 : decode cX1_give 10 = .ok (.iconst (-1), 1) := by decide +kernel
theorem dX1_give_11 : decode cX1_give 11 = .ok (.ireturn, 1) := by decide +kernel
theorem dX1_give_12 : decode cX1_give 12 = .ok (.aload_n 0, 1) := by decide +kernel
theorem dX1_give_13 : decode cX1_give 13 = .ok (.dup, 1) := by decide +kernel
theorem dX1_give_14 : decode cX1_give 14 = .ok (.getfield 15, 3) := by decide +kernel
theorem dX1_give_17 : decode cX1_give 17 = .ok (.iconst 1, 1) := by decide +kernel
theorem dX1_give_18 : decode cX1_give 18 = .ok (.iadd, 1) := by decide +kernel
theorem dX1_give_19 : decode cX1_give 19 = .ok (.putfield 15, 3) := by decide +kernel
theorem dX1_give_22 : decode cX1_give 22 = .ok (.aload_n 0, 1) := by decide +kernel
theorem dX1_give_23 : decode cX1_give 23 = .ok (.getfield 9, 3) := by decide +kernel
theorem dX1_give_26 : decode cX1_give 26 = .ok (.aload_n 0, 1) := by decide +kernel
theorem dX1_give_27 : decode cX1_give 27 = .ok (.getfield 15, 3) := by decide +kernel
theorem dX1_give_30 : decode cX1_give 30 = .ok (.iload_n 1, 1) := by decide +kernel
theorem dX1_give_31 : decode cX1_give 31 = .ok (.i2b, 1) := by decide +kernel
theorem dX1_give_32 : decode cX1_give 32 = .ok (.bastore, 1) := by decide +kernel
theorem dX1_give_33 : decode cX1_give 33 = .ok (.aload_n 0, 1) := by decide +kernel
theorem dX1_give_34 : decode cX1_give 34 = .ok (.getfield 15, 3) := by decide +kernel
theorem dX1_give_37 : decode cX1_give 37 = .ok (.ireturn, 1) := by decide +kernel
theorem dX1_wasGiven_0 : decode cX1_wasGiven 0 = .ok (.iload_n 1, 1) := by decide +kernel
theorem dX1_wasGiven_1 : decode cX1_wasGiven 1 = .ok (.iconst 1, 1) := by decide +kernel
theorem dX1_wasGiven_2 : decode cX1_wasGiven 2 = .ok (.if_icmp .lt 15, 3) := by decide +kernel
theorem dX1_wasGiven_5 : decode cX1_wasGiven 5 = .ok (.iload_n 1, 1) := by decide +kernel
theorem dX1_wasGiven_6 : decode cX1_wasGiven 6 = .ok (.aload_n 0, 1) := by decide +kernel
theorem dX1_wasGiven_7 : decode cX1_wasGiven 7 = .ok (.getfield 15, 3) := by decide +kernel
theorem dX1_wasGiven_10 : decode cX1_wasGiven 10 = .ok (.if_icmp .gt 7, 3) := by decide +kernel
theorem dX1_wasGiven_13 : decode cX1_wasGiven 13 = .ok (.iconst 1, 1) := by decide +kernel
theorem dX1_wasGiven_14 : decode cX1_wasGiven 14 = .ok (.goto 4, 3) := by decide +kernel
theorem dX1_wasGiven_17 : decode cX1_wasGiven 17 = .ok (.iconst 0, 1) := by decide +kernel
theorem dX1_wasGiven_18 : decode cX1_wasGiven 18 = .ok (.ireturn, 1) := by decide +kernel
set_option maxRecDepth 20000 in
theorem ggX1_runnerOf_X1_wasGiven : GoodIn wsX1_runnerOf wsX1_wasGiven := goodIn_r _ [6, 7, 8, 9] (by decide +kernel) (by decide +kernel)
set_option maxRecDepth 20000 in
theorem gX1_runnerOf_X1_wasGiven : GoodIn wsX1_runnerOf (wsV RX1 19 RX1 yX1_wasGiven wsX1_wasGiven) := goodIn_app (goodIn_of _ (by decide +kernel)) ggX1_runnerOf_X1_wasGiven
theorem dX1_runnerOf_0 : decode cX1_runnerOf 0 = .ok (.aload_n 0, 1) := by decide +kernel
theorem dX1_runnerOf_1 : decode cX1_runnerOf 1 = .ok (.iload_n 1, 1) := by decide +kernel
theorem dX1_runnerOf_2 : decode cX1_runnerOf 2 = .ok (.invokevirtual 19, 3) := by decide +kernel
theorem dX1_runnerOf_5 : decode cX1_runnerOf 5 = .ok (.ifCond .eq 12, 3) := by decide +kernel
theorem dX1_runnerOf_8 : decode cX1_runnerOf 8 = .ok (.aload_n 0, 1) := by decide +kernel
theorem dX1_runnerOf_9 : decode cX1_runnerOf 9 = .ok (.getfield 9, 3) := by decide +kernel
theorem dX1_runnerOf_12 : decode cX1_runnerOf 12 = .ok (.iload_n 1, 1) := by decide +kernel
theorem dX1_runnerOf_13 : decode cX1_runnerOf 13 = .ok (.baload, 1) := by decide +kernel
theorem dX1_runnerOf_14 : decode cX1_runnerOf 14 = .ok (.goto 4, 3) := by decide +kernel
theorem dX1_runnerOf_17 : decode cX1_runnerOf 17 = .ok (.iconst (-1), 1) := by decide +kernel
theorem dX1_runnerOf_18 : decode cX1_runnerOf 18 = .ok (.ireturn, 1) := by decide +kernel
set_option maxRecDepth 20000 in
theorem ggX1_stop_X1_wasGiven : GoodIn wsX1_stop wsX1_wasGiven := goodIn_r _ [6, 7, 8, 9] (by decide +kernel) (by decide +kernel)
set_option maxRecDepth 20000 in
theorem gX1_stop_X1_wasGiven : GoodIn wsX1_stop (wsV RX1 19 RX1 yX1_wasGiven wsX1_wasGiven) := goodIn_app (goodIn_of _ (by decide +kernel)) ggX1_stop_X1_wasGiven
theorem dX1_stop_0 : decode cX1_stop 0 = .ok (.aload_n 0, 1) := by decide +kernel
theorem dX1_stop_1 : decode cX1_stop 1 = .ok (.iload_n 1, 1) := by decide +kernel
theorem dX1_stop_2 : decode cX1_stop 2 = .ok (.invokevirtual 19, 3) := by decide +kernel
theorem dX1_stop_5 : decode cX1_stop 5 = .ok (.ifCond .eq 10, 3) := by decide +kernel
theorem dX1_stop_8 : decode cX1_stop 8 = .ok (.aload_n 0, 1) := by decide +kernel
theorem dX1_stop_9 : decode cX1_stop 9 = .ok (.getfield 9, 3) := by decide +kernel
theorem dX1_stop_12 : decode cX1_stop 12 = .ok (.iload_n 1, 1) := by decide +kernel
theorem dX1_stop_13 : decode cX1_stop 13 = .ok (.iconst (-1), 1) := by decide +kernel
theorem dX1_stop_14 : decode cX1_stop 14 = .ok (.bastore, 1) := by decide +kernel
theorem dX1_stop_15 : decode cX1_stop 15 = .ok (.return_, 1) := by decide +kernel
theorem dX2_init_0 : decode cX2_init 0 = .ok (.aload_n 0, 1) := by decide +kernel
theorem dX2_init_1 : decode cX2_init 1 = .ok (.invokespecial 3, 3) := by decide +kernel
theorem dX2_init_4 : decode cX2_init 4 = .ok (.aload_n 0, 1) := by decide +kernel
theorem dX2_init_5 : decode cX2_init 5 = .ok (.bipush 6, 2) := by decide +kernel
theorem dX2_init_7 : decode cX2_init 7 = .ok (.newarray .int, 2) := by decide +kernel
theorem dX2_init_9 : decode cX2_init 9 = .ok (.putfield 9, 3) := by decide +kernel
theorem dX2_init_12 : decode cX2_init 12 = .ok (.aload_n 0, 1) := by decide +kernel
theorem dX2_init_13 : decode cX2_init 13 = .ok (.iconst 0, 1) := by decide +kernel
theorem dX2_init_14 : decode cX2_init 14 = .ok (.putfield 15, 3) := by decide +kernel
theorem dX2_init_17 : decode cX2_init 17 = .ok (.aload_n 0, 1) := by decide +kernel
theorem dX2_init_18 : decode cX2_init 18 = .ok (.bipush 6, 2) := by decide +kernel
theorem dX2_init_20 : decode cX2_init 20 = .ok (.newarray .int, 2) := by decide +kernel
theorem dX2_init_22 : decode cX2_init 22 = .ok (.putfield 19, 3) := by decide +kernel
theorem dX2_init_25 : decode cX2_init 25 = .ok (.aload_n 0, 1) := by decide +kernel
theorem dX2_init_26 : decode cX2_init 26 = .ok (.bipush 6, 2) := by decide +kernel
theorem dX2_init_28 : decode cX2_init 28 = .ok (.newarray .int, 2) := by decide +kernel
theorem dX2_init_30 : decode cX2_init 30 = .ok (.putfield 22, 3) := by decide +kernel
theorem dX2_init_33 : decode cX2_init 33 = .ok (.aload_n 0, 1) := by decide +kernel
theorem dX2_init_34 : decode cX2_init 34 = .ok (.bipush 6, 2) := by decide +kernel
theorem dX2_init_36 : decode cX2_init 36 = .ok (.newarray .int, 2) := by decide +kernel
theorem dX2_init_38 : decode cX2_init 38 = .ok (.putfield 25, 3) := by decide +kernel
theorem dX2_init_41 : decode cX2_init 41 = .ok (.aload_n 0, 1) := by decide +kernel
theorem dX2_init_42 : decode cX2_init 42 = .ok (.bipush 6, 2) := by decide +kernel
theorem dX2_init_44 : decode cX2_init 44 = .ok (.newarray .int, 2) := by decide +kernel
theorem dX2_init_46 : decode cX2_init 46 = .ok (.putfield 28, 3) := by decide +kernel
theorem dX2_init_49 : decode cX2_init 49 = .ok (.aload_n 0, 1) := by decide +kernel
theorem dX2_init_50 : decode cX2_init 50 = .ok (.bipush 6, 2) := by decide +kernel
theorem dX2_init_52 : decode cX2_init 52 = .ok (.newarray .boolean, 2) := by decide +kernel
theorem dX2_init_54 : decode cX2_init 54 = .ok (.putfield 31, 3) := by decide +kernel
theorem dX2_init_57 : decode cX2_init 57 = .ok (.return_, 1) := by decide +kernel
theorem dX2_size_0 : decode cX2_size 0 = .ok (.aload_n 0, 1) := by decide +kernel
theorem dX2_size_1 : decode cX2_size 1 = .ok (.getfield 15, 3) := by decide +kernel
theorem dX2_size_4 : decode cX2_size 4 = .ok (.ireturn, 1) := by decide +kernel
theorem dX2_sessionAt_0 : decode cX2_sessionAt 0 = .ok (.iload_n 1, 1) := by decide +kernel
theorem dX2_sessionAt_1 : decode cX2_sessionAt 1 = .ok (.ifCond .lt 20, 3) := by decide +kernel
theorem dX2_sessionAt_4 : decode cX2_sessionAt 4 = .ok (.iload_n 1, 1) := by decide +kernel
theorem dX2_sessionAt_5 : decode cX2_sessionAt 5 = .ok (.aload_n 0, 1) := by decide +kernel
theorem dX2_sessionAt_6 : decode cX2_sessionAt 6 = .ok (.getfield 15, 3) := by decide +kernel
theorem dX2_sessionAt_9 : decode cX2_sessionAt 9 = .ok (.if_icmp .ge 12, 3) := by decide +kernel
theorem dX2_sessionAt_12 : decode cX2_sessionAt 12 = .ok (.aload_n 0, 1) := by decide +kernel
theorem dX2_sessionAt_13 : decode cX2_sessionAt 13 = .ok (.getfield 9, 3) := by decide +kernel
theorem dX2_sessionAt_16 : decode cX2_sessionAt 16 = .ok (.iload_n 1, 1) := by decide +kernel
theorem dX2_sessionAt_17 : decode cX2_sessionAt 17 = .ok (.iaload, 1) := by decide +kernel
theorem dX2_sessionAt_18 : decode cX2_sessionAt 18 = .ok (.goto 4, 3) := by decide +kernel
theorem dX2_sessionAt_21 : decode cX2_sessionAt 21 = .ok (.iconst (-1), 1) := by decide +kernel
theorem dX2_sessionAt_22 : decode cX2_sessionAt 22 = .ok (.ireturn, 1) := by decide +kernel
theorem dX2_placeOf_0 : decode cX2_placeOf 0 = .ok (.iconst 0, 1) := by decide +kernel
theorem dX2_placeOf_1 : decode cX2_placeOf 1 = .ok (.istore_n 2, 1) := by decide +kernel
theorem dX2_placeOf_2 : decode cX2_placeOf 2 = .ok (.iload_n 2, 1) := by decide +kernel
theorem dX2_placeOf_3 : decode cX2_placeOf 3 = .ok (.aload_n 0, 1) := by decide +kernel
theorem dX2_placeOf_4 : decode cX2_placeOf 4 = .ok (.getfield 15, 3) := by decide +kernel
theorem dX2_placeOf_7 : decode cX2_placeOf 7 = .ok (.if_icmp .ge 21, 3) := by decide +kernel
theorem dX2_placeOf_10 : decode cX2_placeOf 10 = .ok (.aload_n 0, 1) := by decide +kernel
theorem dX2_placeOf_11 : decode cX2_placeOf 11 = .ok (.getfield 9, 3) := by decide +kernel
theorem dX2_placeOf_14 : decode cX2_placeOf 14 = .ok (.iload_n 2, 1) := by decide +kernel
theorem dX2_placeOf_15 : decode cX2_placeOf 15 = .ok (.iaload, 1) := by decide +kernel
theorem dX2_placeOf_16 : decode cX2_placeOf 16 = .ok (.iload_n 1, 1) := by decide +kernel
theorem dX2_placeOf_17 : decode cX2_placeOf 17 = .ok (.if_icmp .ne 5, 3) := by decide +kernel
theorem dX2_placeOf_20 : decode cX2_placeOf 20 = .ok (.iload_n 2, 1) := by decide +kernel
theorem dX2_placeOf_21 : decode cX2_placeOf 21 = .ok (.ireturn, 1) := by decide +kernel
theorem dX2_placeOf_22 : decode cX2_placeOf 22 = .ok (.iinc 2 1, 3) := by decide +kernel
theorem dX2_placeOf_25 : decode cX2_placeOf 25 = .ok (.goto (-23), 3) := by decide +kernel
theorem dX2_placeOf_28 : decode cX2_placeOf 28 = .ok (.iconst (-1), 1) := by decide +kernel
theorem dX2_placeOf_29 : decode cX2_placeOf 29 = .ok (.ireturn, 1) := by decide +kernel
set_option maxRecDepth 20000 in
theorem ggX2_contains_X2_placeOf : GoodIn wsX2_contains wsX2_placeOf := goodIn_r _ [5, 6, 7, 8, 9, 10, 11, 12, 13, 14] (by decide +kernel) (by decide +kernel)
set_option maxRecDepth 20000 in
theorem gX2_contains_X2_placeOf : GoodIn wsX2_contains (wsV RX2 35 RX2 yX2_placeOf wsX2_placeOf) := goodIn_app (goodIn_of _ (by decide +kernel)) ggX2_contains_X2_placeOf
theorem dX2_contains_0 : decode cX2_contains 0 = .ok (.aload_n 0, 1) := by decide +kernel
theorem dX2_contains_1 : decode cX2_contains 1 = .ok (.iload_n 1, 1) := by decide +kernel
theorem dX2_contains_2 : decode cX2_contains 2 = .ok (.invokevirtual 35, 3) := by decide +kernel
theorem dX2_contains_5 : decode cX2_contains 5 = .ok (.iconst (-1), 1) := by decide +kernel
theorem dX2_contains_6 : decode cX2_contains 6 = .ok (.if_icmp .eq 7, 3) := by decide +kernel
theorem dX2_contains_9 : decode cX2_contains 9 = .ok (.iconst 1, 1) := by decide +kernel
theorem dX2_contains_10 : decode cX2_contains 10 = .ok (.goto 4, 3) := by decide +kernel
theorem dX2_contains_13 : decode cX2_contains 13 = .ok (.iconst 0, 1) := by decide +kernel
theorem dX2_contains_14 : decode cX2_contains 14 = .ok (.ireturn, 1) := by decide +kernel
set_option maxRecDepth 20000 in
theorem ggX2_addForTable_X2_append : GoodIn wsX2_addForTable wsX2_append := goodIn_r _ [10, 11, 12, 13, 14, 15, 16, 17, 18, 19] (by decide +kernel) (by decide +kernel)
set_option maxRecDepth 20000 in
theorem gX2_addForTable_X2_append : GoodIn wsX2_addForTable (wsV RX2 39 RX2 yX2_append wsX2_append) := goodIn_app (goodIn_of _ (by decide +kernel)) ggX2_addForTable_X2_append
theorem dX2_addForTable_0 : decode cX2_addForTable 0 = .ok (.aload_n 0, 1) := by decide +kernel
theorem dX2_addForTable_1 : decode cX2_addForTable 1 = .ok (.getfield 19, 3) := by decide +kernel
theorem dX2_addForTable_4 : decode cX2_addForTable 4 = .ok (.iload_n 1, 1) := by decide +kernel
theorem dX2_addForTable_5 : decode cX2_addForTable 5 = .ok (.iconst 0, 1) := by decide +kernel
theorem dX2_addForTable_6 : decode cX2_addForTable 6 = .ok (.iastore, 1) := by decide +kernel
theorem dX2_addForTable_7 : decode cX2_addForTable 7 = .ok (.aload_n 0, 1) := by decide +kernel
theorem dX2_addForTable_8 : decode cX2_addForTable 8 = .ok (.getfield 22, 3) := by decide +kernel
theorem dX2_addForTable_11 : decode cX2_addForTable 11 = .ok (.iload_n 1, 1) := by decide +kernel
end
section
theorem dX2_addForTable_12 : decode cX2_addForTable 12 = .ok (.iload_n 3, 1) := by decide +kernel
theorem dX2_addForTable_13 : decode cX2_addForTable 13 = .ok (.iastore, 1) := by decide +kernel
theorem dX2_addForTable_14 : decode cX2_addForTable 14 = .ok (.aload_n 0, 1) := by decide +kernel
theorem dX2_addForTable_15 : decode cX2_addForTable 15 = .ok (.getfield 25, 3) := by decide +kernel
theorem dX2_addForTable_18 : decode cX2_addForTable 18 = .ok (.iload_n 1, 1) := by decide +kernel
theorem dX2_addForTable_19 : decode cX2_addForTable 19 = .ok (.iload 4, 2) := by decide +kernel
theorem dX2_addForTable_21 : decode cX2_addForTable 21 = .ok (.iastore, 1) := by decide +kernel
theorem dX2_addForTable_22 : decode cX2_addForTable 22 = .ok (.aload_n 0, 1) := by decide +kernel
theorem dX2_addForTable_23 : decode cX2_addForTable 23 = .ok (.getfield 28, 3) := by decide +kernel
theorem dX2_addForTable_26 : decode cX2_addForTable 26 = .ok (.iload_n 1, 1) := by decide +kernel
theorem dX2_addForTable_27 : decode cX2_addForTable 27 = .ok (.iload_n 2, 1) := by decide +kernel
theorem dX2_addForTable_28 : decode cX2_addForTable 28 = .ok (.iastore, 1) := by decide +kernel
theorem dX2_addForTable_29 : decode cX2_addForTable 29 = .ok (.aload_n 0, 1) := by decide +kernel
theorem dX2_addForTable_30 : decode cX2_addForTable 30 = .ok (.getfield 31, 3) := by decide +kernel
theorem dX2_addForTable_33 : decode cX2_addForTable 33 = .ok (.iload_n 1, 1) := by decide +kernel
theorem dX2_addForTable_34 : decode cX2_addForTable 34 = .ok (.iconst 0, 1) := by decide +kernel
theorem dX2_addForTable_35 : decode cX2_addForTable 35 = .ok (.bastore, 1) := by decide +kernel
theorem dX2_addForTable_36 : decode cX2_addForTable 36 = .ok (.aload_n 0, 1) := by decide +kernel
theorem dX2_addForTable_37 : decode cX2_addForTable 37 = .ok (.iload_n 1, 1) := by decide +kernel
theorem dX2_addForTable_38 : decode cX2_addForTable 38 = .ok (.invokevirtual 39, 3) := by decide +kernel
theorem dX2_addForTable_41 : decode cX2_addForTable 41 = .ok (.return_, 1) := by decide +kernel
set_option maxRecDepth 20000 in
theorem ggX2_addForNumber_X2_append : GoodIn wsX2_addForNumber wsX2_append := goodIn_r _ [6, 7, 8, 9, 10, 11, 12, 13, 14, 15] (by decide +kernel) (by decide +kernel)
set_option maxRecDepth 20000 in
theorem gX2_addForNumber_X2_append : GoodIn wsX2_addForNumber (wsV RX2 39 RX2 yX2_append wsX2_append) := goodIn_app (goodIn_of _ (by decide +kernel)) ggX2_addForNumber_X2_append
theorem dX2_addForNumber_0 : decode cX2_addForNumber 0 = .ok (.aload_n 0, 1) := by decide +kernel
theorem dX2_addForNumber_1 : decode cX2_addForNumber 1 = .ok (.getfield 19, 3) := by decide +kernel
theorem dX2_addForNumber_4 : decode cX2_addForNumber 4 = .ok (.iload_n 1, 1) := by decide +kernel
theorem dX2_addForNumber_5 : decode cX2_addForNumber 5 = .ok (.iload_n 2, 1) := by decide +kernel
theorem dX2_addForNumber_6 : decode cX2_addForNumber 6 = .ok (.iastore, 1) := by decide +kernel
theorem dX2_addForNumber_7 : decode cX2_addForNumber 7 = .ok (.aload_n 0, 1) := by decide +kernel
theorem dX2_addForNumber_8 : decode cX2_addForNumber 8 = .ok (.iload_n 1, 1) := by decide +kernel
theorem dX2_addForNumber_9 : decode cX2_addForNumber 9 = .ok (.invokevirtual 39, 3) := by decide +kernel
theorem dX2_addForNumber_12 : decode cX2_addForNumber 12 = .ok (.return_, 1) := by decide +kernel
theorem dX2_remove_0 : decode cX2_remove 0 = .ok (.iconst 0, 1) := by decide +kernel
theorem dX2_remove_1 : decode cX2_remove 1 = .ok (.istore_n 2, 1) := by decide +kernel
theorem dX2_remove_2 : decode cX2_remove 2 = .ok (.iconst 0, 1) := by decide +kernel
theorem dX2_remove_3 : decode cX2_remove 3 = .ok (.istore_n 3, 1) := by decide +kernel
theorem dX2_remove_4 : decode cX2_remove 4 = .ok (.iload_n 3, 1) := by decide +kernel
theorem dX2_remove_5 : decode cX2_remove 5 = .ok (.aload_n 0, 1) := by decide +kernel
theorem dX2_remove_6 : decode cX2_remove 6 = .ok (.getfield 15, 3) := by decide +kernel
theorem dX2_remove_9 : decode cX2_remove 9 = .ok (.if_icmp .ge 34, 3) := by decide +kernel
theorem dX2_remove_12 : decode cX2_remove 12 = .ok (.aload_n 0, 1) := by decide +kernel
theorem dX2_remove_13 : decode cX2_remove 13 = .ok (.getfield 9, 3) := by decide +kernel
theorem dX2_remove_16 : decode cX2_remove 16 = .ok (.iload_n 3, 1) := by decide +kernel
theorem dX2_remove_17 : decode cX2_remove 17 = .ok (.iaload, 1) := by decide +kernel
theorem dX2_remove_18 : decode cX2_remove 18 = .ok (.iload_n 1, 1) := by decide +kernel
theorem dX2_remove_19 : decode cX2_remove 19 = .ok (.if_icmp .eq 18, 3) := by decide +kernel
theorem dX2_remove_22 : decode cX2_remove 22 = .ok (.aload_n 0, 1) := by decide +kernel
theorem dX2_remove_23 : decode cX2_remove 23 = .ok (.getfield 9, 3) := by decide +kernel
theorem dX2_remove_26 : decode cX2_remove 26 = .ok (.iload_n 2, 1) := by decide +kernel
theorem dX2_remove_27 : decode cX2_remove 27 = .ok (.aload_n 0, 1) := by decide +kernel
theorem dX2_remove_28 : decode cX2_remove 28 = .ok (.getfield 9, 3) := by decide +kernel
theorem dX2_remove_31 : decode cX2_remove 31 = .ok (.iload_n 3, 1) := by decide +kernel
theorem dX2_remove_32 : decode cX2_remove 32 = .ok (.iaload, 1) := by decide +kernel
theorem dX2_remove_33 : decode cX2_remove 33 = .ok (.iastore, 1) := by decide +kernel
theorem dX2_remove_34 : decode cX2_remove 34 = .ok (.iinc 2 1, 3) := by decide +kernel
theorem dX2_remove_37 : decode cX2_remove 37 = .ok (.iinc 3 1, 3) := by decide +kernel
theorem dX2_remove_40 : decode cX2_remove 40 = .ok (.goto (-36), 3) := by decide +kernel
theorem dX2_remove_43 : decode cX2_remove 43 = .ok (.aload_n 0, 1) := by decide +kernel
theorem dX2_remove_44 : decode cX2_remove 44 = .ok (.iload_n 2, 1) := by decide +kernel
theorem dX2_remove_45 : decode cX2_remove 45 = .ok (.putfield 15, 3) := by decide +kernel
theorem dX2_remove_48 : decode cX2_remove 48 = .ok (.return_, 1) := by decide +kernel
set_option maxRecDepth 20000 in
theorem ggX2_earlierAgainst_X2_wants : GoodIn wsX2_earlierAgainst wsX2_wants := goodIn_r _ [8, 9, 10, 11, 19, 20, 21, 22, 23, 24, 25] (by decide +kernel) (by decide +kernel)
set_option maxRecDepth 20000 in
theorem gX2_earlierAgainst_X2_wants : GoodIn wsX2_earlierAgainst (wsV RX2 43 RX2 yX2_wants wsX2_wants) := goodIn_app (goodIn_of _ (by decide +kernel)) ggX2_earlierAgainst_X2_wants
set_option maxRecDepth 20000 in
theorem ggX2_earlierAgainst_X4_conflict : GoodIn wsX2_earlierAgainst wsX4_conflict := goodIn_r _ [14, 15, 16, 17, 13, 18] (by decide +kernel) (by decide +kernel)
set_option maxRecDepth 20000 in
theorem gX2_earlierAgainst_X4_conflict_n47 : GoodIn wsX2_earlierAgainst (wsX4_conflict) := ggX2_earlierAgainst_X4_conflict
theorem dX2_earlierAgainst_0 : decode cX2_earlierAgainst 0 = .ok (.iconst 0, 1) := by decide +kernel
theorem dX2_earlierAgainst_1 : decode cX2_earlierAgainst 1 = .ok (.istore 4, 2) := by decide +kernel
theorem dX2_earlierAgainst_3 : decode cX2_earlierAgainst 3 = .ok (.iconst 0, 1) := by decide +kernel
theorem dX2_earlierAgainst_4 : decode cX2_earlierAgainst 4 = .ok (.istore 5, 2) := by decide +kernel
theorem dX2_earlierAgainst_6 : decode cX2_earlierAgainst 6 = .ok (.iload 5, 2) := by decide +kernel
theorem dX2_earlierAgainst_8 : decode cX2_earlierAgainst 8 = .ok (.aload_n 0, 1) := by decide +kernel
theorem dX2_earlierAgainst_9 : decode cX2_earlierAgainst 9 = .ok (.getfield 15, 3) := by decide +kernel
theorem dX2_earlierAgainst_12 : decode cX2_earlierAgainst 12 = .ok (.if_icmp .ge 57, 3) := by decide +kernel
theorem dX2_earlierAgainst_15 : decode cX2_earlierAgainst 15 = .ok (.iload 5, 2) := by decide +kernel
theorem dX2_earlierAgainst_17 : decode cX2_earlierAgainst 17 = .ok (.iload_n 3, 1) := by decide +kernel
theorem dX2_earlierAgainst_18 : decode cX2_earlierAgainst 18 = .ok (.if_icmp .ge 51, 3) := by decide +kernel
theorem dX2_earlierAgainst_21 : decode cX2_earlierAgainst 21 = .ok (.aload_n 0, 1) := by decide +kernel
theorem dX2_earlierAgainst_22 : decode cX2_earlierAgainst 22 = .ok (.getfield 9, 3) := by decide +kernel
theorem dX2_earlierAgainst_25 : decode cX2_earlierAgainst 25 = .ok (.iload 5, 2) := by decide +kernel
theorem dX2_earlierAgainst_27 : decode cX2_earlierAgainst 27 = .ok (.iaload, 1) := by decide +kernel
theorem dX2_earlierAgainst_28 : decode cX2_earlierAgainst 28 = .ok (.istore 6, 2) := by decide +kernel
theorem dX2_earlierAgainst_30 : decode cX2_earlierAgainst 30 = .ok (.aload_n 0, 1) := by decide +kernel
theorem dX2_earlierAgainst_31 : decode cX2_earlierAgainst 31 = .ok (.iload 6, 2) := by decide +kernel
theorem dX2_earlierAgainst_33 : decode cX2_earlierAgainst 33 = .ok (.iload_n 1, 1) := by decide +kernel
theorem dX2_earlierAgainst_34 : decode cX2_earlierAgainst 34 = .ok (.invokevirtual 43, 3) := by decide +kernel
theorem dX2_earlierAgainst_37 : decode cX2_earlierAgainst 37 = .ok (.ifCond .eq 26, 3) := by decide +kernel
theorem dX2_earlierAgainst_40 : decode cX2_earlierAgainst 40 = .ok (.iload_n 2, 1) := by decide +kernel
theorem dX2_earlierAgainst_41 : decode cX2_earlierAgainst 41 = .ok (.aload_n 0, 1) := by decide +kernel
theorem dX2_earlierAgainst_42 : decode cX2_earlierAgainst 42 = .ok (.getfield 25, 3) := by decide +kernel
theorem dX2_earlierAgainst_45 : decode cX2_earlierAgainst 45 = .ok (.iload 6, 2) := by decide +kernel
theorem dX2_earlierAgainst_47 : decode cX2_earlierAgainst 47 = .ok (.iaload, 1) := by decide +kernel
theorem dX2_earlierAgainst_48 : decode cX2_earlierAgainst 48 = .ok (.invokestatic 47, 3) := by decide +kernel
theorem dX2_earlierAgainst_51 : decode cX2_earlierAgainst 51 = .ok (.ifCond .eq 12, 3) := by decide +kernel
theorem dX2_earlierAgainst_54 : decode cX2_earlierAgainst 54 = .ok (.iload 4, 2) := by decide +kernel
theorem dX2_earlierAgainst_56 : decode cX2_earlierAgainst 56 = .ok (.iconst 1, 1) := by decide +kernel
theorem dX2_earlierAgainst_57 : decode cX2_earlierAgainst 57 = .ok (.iload 6, 2) := by decide +kernel
theorem dX2_earlierAgainst_59 : decode cX2_earlierAgainst 59 = .ok (.ishl, 1) := by decide +kernel
theorem dX2_earlierAgainst_60 : decode cX2_earlierAgainst 60 = .ok (.ior, 1) := by decide +kernel
theorem dX2_earlierAgainst_61 : decode cX2_earlierAgainst 61 = .ok (.istore 4, 2) := by decide +kernel
theorem dX2_earlierAgainst_63 : decode cX2_earlierAgainst 63 = .ok (.iinc 5 1, 3) := by decide +kernel
theorem dX2_earlierAgainst_66 : decode cX2_earlierAgainst 66 = .ok (.goto (-60), 3) := by decide +kernel
theorem dX2_earlierAgainst_69 : decode cX2_earlierAgainst 69 = .ok (.iload 4, 2) := by decide +kernel
theorem dX2_earlierAgainst_71 : decode cX2_earlierAgainst 71 = .ok (.ireturn, 1) := by decide +kernel
set_option maxRecDepth 20000 in
theorem ggX2_markDropped_X2_wants : GoodIn wsX2_markDropped wsX2_wants := goodIn_r _ [8, 9, 10, 3, 11, 12, 13, 14, 15, 16, 17] (by decide +kernel) (by decide +kernel)
set_option maxRecDepth 20000 in
theorem gX2_markDropped_X2_wants : GoodIn wsX2_markDropped (wsV RX2 43 RX2 yX2_wants wsX2_wants) := goodIn_app (goodIn_of _ (by decide +kernel)) ggX2_markDropped_X2_wants
theorem dX2_markDropped_0 : decode cX2_markDropped 0 = .ok (.iconst 0, 1) := by decide +kernel
theorem dX2_markDropped_1 : decode cX2_markDropped 1 = .ok (.istore_n 2, 1) := by decide +kernel
theorem dX2_markDropped_2 : decode cX2_markDropped 2 = .ok (.iload_n 2, 1) := by decide +kernel
theorem dX2_markDropped_3 : decode cX2_markDropped 3 = .ok (.aload_n 0, 1) := by decide +kernel
theorem dX2_markDropped_4 : decode cX2_markDropped 4 = .ok (.getfield 15, 3) := by decide +kernel
theorem dX2_markDropped_7 : decode cX2_markDropped 7 = .ok (.if_icmp .ge 35, 3) := by decide +kernel
theorem dX2_markDropped_10 : decode cX2_markDropped 10 = .ok (.aload_n 0, 1) := by decide +kernel
theorem dX2_markDropped_11 : decode cX2_markDropped 11 = .ok (.aload_n 0, 1) := by decide +kernel
theorem dX2_markDropped_12 : decode cX2_markDropped 12 = .ok (.getfield 9, 3) := by decide +kernel
theorem dX2_markDropped_15 : decode cX2_markDropped 15 = .ok (.iload_n 2, 1) := by decide +kernel
theorem dX2_markDropped_16 : decode cX2_markDropped 16 = .ok (.iaload, 1) := by decide +kernel
theorem dX2_markDropped_17 : decode cX2_markDropped 17 = .ok (.iload_n 1, 1) := by decide +kernel
theorem dX2_markDropped_18 : decode cX2_markDropped 18 = .ok (.invokevirtual 43, 3) := by decide +kernel
theorem dX2_markDropped_21 : decode cX2_markDropped 21 = .ok (.ifCond .eq 15, 3) := by decide +kernel
theorem dX2_markDropped_24 : decode cX2_markDropped 24 = .ok (.aload_n 0, 1) := by decide +kernel
theorem dX2_markDropped_25 : decode cX2_markDropped 25 = .ok (.getfield 31, 3) := by decide +kernel
theorem dX2_markDropped_28 : decode cX2_markDropped 28 = .ok (.aload_n 0, 1) := by decide +kernel
theorem dX2_markDropped_29 : decode cX2_markDropped 29 = .ok (.getfield 9, 3) := by decide +kernel
theorem dX2_markDropped_32 : decode cX2_markDropped 32 = .ok (.iload_n 2, 1) := by decide +kernel
theorem dX2_markDropped_33 : decode cX2_markDropped 33 = .ok (.iaload, 1) := by decide +kernel
theorem dX2_markDropped_34 : decode cX2_markDropped 34 = .ok (.iconst 1, 1) := by decide +kernel
theorem dX2_markDropped_35 : decode cX2_markDropped 35 = .ok (.bastore, 1) := by decide +kernel
theorem dX2_markDropped_36 : decode cX2_markDropped 36 = .ok (.iinc 2 1, 3) := by decide +kernel
theorem dX2_markDropped_39 : decode cX2_markDropped 39 = .ok (.goto (-37), 3) := by decide +kernel
theorem dX2_markDropped_42 : decode cX2_markDropped 42 = .ok (.return_, 1) := by decide +kernel
theorem dX2_lower_0 : decode cX2_lower 0 = .ok (.aload_n 0, 1) := by decide +kernel
theorem dX2_lower_1 : decode cX2_lower 1 = .ok (.getfield 28, 3) := by decide +kernel
theorem dX2_lower_4 : decode cX2_lower 4 = .ok (.iload_n 1, 1) := by decide +kernel
theorem dX2_lower_5 : decode cX2_lower 5 = .ok (.iaload, 1) := by decide +kernel
theorem dX2_lower_6 : decode cX2_lower 6 = .ok (.iload_n 2, 1) := by decide +kernel
theorem dX2_lower_7 : decode cX2_lower 7 = .ok (.if_icmp .lt 12, 3) := by decide +kernel
theorem dX2_lower_10 : decode cX2_lower 10 = .ok (.aload_n 0, 1) := by decide +kernel
theorem dX2_lower_11 : decode cX2_lower 11 = .ok (.getfield 28, 3) := by decide +kernel
theorem dX2_lower_14 : decode cX2_lower 14 = .ok (.iload_n 1, 1) := by decide +kernel
theorem dX2_lower_15 : decode cX2_lower 15 = .ok (.iload_n 2, 1) := by decide +kernel
theorem dX2_lower_16 : decode cX2_lower 16 = .ok (.iconst 1, 1) := by decide +kernel
theorem dX2_lower_17 : decode cX2_lower 17 = .ok (.isub, 1) := by decide +kernel
theorem dX2_lower_18 : decode cX2_lower 18 = .ok (.iastore, 1) := by decide +kernel
theorem dX2_lower_19 : decode cX2_lower 19 = .ok (.return_, 1) := by decide +kernel
theorem dX2_isForNumber_0 : decode cX2_isForNumber 0 = .ok (.aload_n 0, 1) := by decide +kernel
theorem dX2_isForNumber_1 : decode cX2_isForNumber 1 = .ok (.getfield 19, 3) := by decide +kernel
theorem dX2_isForNumber_4 : decode cX2_isForNumber 4 = .ok (.iload_n 1, 1) := by decide +kernel
theorem dX2_isForNumber_5 : decode cX2_isForNumber 5 = .ok (.iaload, 1) := by decide +kernel
theorem dX2_isForNumber_6 : decode cX2_isForNumber 6 = .ok (.ifCond .eq 7, 3) := by decide +kernel
theorem dX2_isForNumber_9 : decode cX2_isForNumber 9 = .ok (.iconst 1, 1) := by decide +kernel
theorem dX2_isForNumber_10 : decode cX2_isForNumber 10 = .ok (.goto 4, 3) := by decide +kernel
theorem dX2_isForNumber_13 : decode cX2_isForNumber 13 = .ok (.iconst 0, 1) := by decide +kernel
theorem dX2_isForNumber_14 : decode cX2_isForNumber 14 = .ok (.ireturn, 1) := by decide +kernel
theorem dX2_numberOf_0 : decode cX2_numberOf 0 = .ok (.aload_n 0, 1) := by decide +kernel
theorem dX2_numberOf_1 : decode cX2_numberOf 1 = .ok (.getfield 19, 3) := by decide +kernel
theorem dX2_numberOf_4 : decode cX2_numberOf 4 = .ok (.iload_n 1, 1) := by decide +kernel
theorem dX2_numberOf_5 : decode cX2_numberOf 5 = .ok (.iaload, 1) := by decide +kernel
theorem dX2_numberOf_6 : decode cX2_numberOf 6 = .ok (.ireturn, 1) := by decide +kernel
theorem dX2_tableOf_0 : decode cX2_tableOf 0 = .ok (.aload_n 0, 1) := by decide +kernel
theorem dX2_tableOf_1 : decode cX2_tableOf 1 = .ok (.getfield 22, 3) := by decide +kernel
theorem dX2_tableOf_4 : decode cX2_tableOf 4 = .ok (.iload_n 1, 1) := by decide +kernel
theorem dX2_tableOf_5 : decode cX2_tableOf 5 = .ok (.iaload, 1) := by decide +kernel
theorem dX2_tableOf_6 : decode cX2_tableOf 6 = .ok (.ireturn, 1) := by decide +kernel
theorem dX2_modeOf_0 : decode cX2_modeOf 0 = .ok (.aload_n 0, 1) := by decide +kernel
theorem dX2_modeOf_1 : decode cX2_modeOf 1 = .ok (.getfield 25, 3) := by decide +kernel
theorem dX2_modeOf_4 : decode cX2_modeOf 4 = .ok (.iload_n 1, 1) := by decide +kernel
theorem dX2_modeOf_5 : decode cX2_modeOf 5 = .ok (.iaload, 1) := by decide +kernel
theorem dX2_modeOf_6 : decode cX2_modeOf 6 = .ok (.ireturn, 1) := by decide +kernel
theorem dX2_levelOf_0 : decode cX2_levelOf 0 = .ok (.aload_n 0, 1) := by decide +kernel
theorem dX2_levelOf_1 : decode cX2_levelOf 1 = .ok (.getfield 28, 3) := by decide +kernel
theorem dX2_levelOf_4 : decode cX2_levelOf 4 = .ok (.iload_n 1, 1) := by decide +kernel
theorem dX2_levelOf_5 : decode cX2_levelOf 5 = .ok (.iaload, 1) := by decide +kernel
theorem dX2_levelOf_6 : decode cX2_levelOf 6 = .ok (.ireturn, 1) := by decide +kernel
theorem dX2_isDropped_0 : decode cX2_isDropped 0 = .ok (.aload_n 0, 1) := by decide +kernel
theorem dX2_isDropped_1 : decode cX2_isDropped 1 = .ok (.getfield 31, 3) := by decide +kernel
theorem dX2_isDropped_4 : decode cX2_isDropped 4 = .ok (.iload_n 1, 1) := by decide +kernel
theorem dX2_isDropped_5 : decode cX2_isDropped 5 = .ok (.baload, 1) := by decide +kernel
theorem dX2_isDropped_6 : decode cX2_isDropped 6 = .ok (.ireturn, 1) := by decide +kernel
theorem dX2_wants_0 : decode cX2_wants 0 = .ok (.aload_n 0, 1) := by decide +kernel
theorem dX2_wants_1 : decode cX2_wants 1 = .ok (.getfield 19, 3) := by decide +kernel
theorem dX2_wants_4 : decode cX2_wants 4 = .ok (.iload_n 1, 1) := by decide +kernel
theorem dX2_wants_5 : decode cX2_wants 5 = .ok (.iaload, 1) := by decide +kernel
theorem dX2_wants_6 : decode cX2_wants 6 = .ok (.ifCond .ne 26, 3) := by decide +kernel
theorem dX2_wants_9 : decode cX2_wants 9 = .ok (.aload_n 0, 1) := by decide +kernel
theorem dX2_wants_10 : decode cX2_wants 10 = .ok (.getfield 22, 3) := by decide +kernel
theorem dX2_wants_13 : decode cX2_wants 13 = .ok (.iload_n 1, 1) := by decide +kernel
theorem dX2_wants_14 : decode cX2_wants 14 = .ok (.iaload, 1) := by decide +kernel
theorem dX2_wants_15 : decode cX2_wants 15 = .ok (.iload_n 2, 1) := by decide +kernel
theorem dX2_wants_16 : decode cX2_wants 16 = .ok (.if_icmp .ne 16, 3) := by decide +kernel
theorem dX2_wants_19 : decode cX2_wants 19 = .ok (.aload_n 0, 1) := by decide +kernel
theorem dX2_wants_20 : decode cX2_wants 20 = .ok (.getfield 31, 3) := by decide +kernel
theorem dX2_wants_23 : decode cX2_wants 23 = .ok (.iload_n 1, 1) := by decide +kernel
theorem dX2_wants_24 : decode cX2_wants 24 = .ok (.baload, 1) := by decide +kernel
theorem dX2_wants_25 : decode cX2_wants 25 = .ok (.ifCond .ne 7, 3) := by decide +kernel
theorem dX2_wants_28 : decode cX2_wants 28 = .ok (.iconst 1, 1) := by decide +kernel
theorem dX2_wants_29 : decode cX2_wants 29 = .ok (.goto 4, 3) := by decide +kernel
theorem dX2_wants_32 : decode cX2_wants 32 = .ok (.iconst 0, 1) := by decide +kernel
theorem dX2_wants_33 : decode cX2_wants 33 = .ok (.ireturn, 1) := by decide +kernel
theorem dX2_append_0 : decode cX2_append 0 = .ok (.aload_n 0, 1) := by decide +kernel
theorem dX2_append_1 : decode cX2_append 1 = .ok (.getfield 15, 3) := by decide +kernel
theorem dX2_append_4 : decode cX2_append 4 = .ok (.bipush 6, 2) := by decide +kernel
theorem dX2_append_6 : decode cX2_append 6 = .ok (.if_icmp .ge 23, 3) := by decide +kernel
theorem dX2_append_9 : decode cX2_append 9 = .ok (.aload_n 0, 1) := by decide +kernel
theorem dX2_append_10 : decode cX2_append 10 = .ok (.getfield 9, 3) := by decide +kernel
theorem dX2_append_13 : decode cX2_append 13 = .ok (.aload_n 0, 1) := by decide +kernel
theorem dX2_append_14 : decode cX2_append 14 = .ok (.getfield 15, 3) := by decide +kernel
theorem dX2_append_17 : decode cX2_append 17 = .ok (.iload_n 1, 1) := by decide +kernel
theorem dX2_append_18 : decode cX2_append 18 = .ok (.iastore, 1) := by decide +kernel
theorem dX2_append_19 : decode cX2_append 19 = .ok (.aload_n 0, 1) := by decide +kernel
theorem dX2_append_20 : decode cX2_append 20 = .ok (.dup, 1) := by decide +kernel
theorem dX2_append_21 : decode cX2_append 21 = .ok (.getfield 15, 3) := by decide +kernel
theorem dX2_append_24 : decode cX2_append 24 = .ok (.iconst 1, 1) := by decide +kernel
theorem dX2_append_25 : decode cX2_append 25 = .ok (.iadd, 1) := by decide +kernel
theorem dX2_append_26 : decode cX2_append 26 = .ok (.putfield 15, 3) := by decide +kernel
theorem dX2_append_29 : decode cX2_append 29 = .ok (.return_, 1) := by decide +kernel
theorem dX3_init_0 : decode cX3_init 0 = .ok (.aload_n 0, 1) := by decide +kernel
theorem dX3_init_1 : decode cX3_init 1 = .ok (.invokespecial 3, 3) := by decide +kernel
theorem dX3_init_4 : decode cX3_init 4 = .ok (.aload_n 0, 1) := by decide +kernel
theorem dX3_init_5 : decode cX3_init 5 = .ok (.sipush 512, 3) := by decide +kernel
theorem dX3_init_8 : decode cX3_init 8 = .ok (.newarray .int, 2) := by decide +kernel
theorem dX3_init_10 : decode cX3_init 10 = .ok (.putfield 9, 3) := by decide +kernel
theorem dX3_init_13 : decode cX3_init 13 = .ok (.aload_n 0, 1) := by decide +kernel
theorem dX3_init_14 : decode cX3_init 14 = .ok (.sipush 512, 3) := by decide +kernel
theorem dX3_init_17 : decode cX3_init 17 = .ok (.newarray .int, 2) := by decide +kernel
theorem dX3_init_19 : decode cX3_init 19 = .ok (.putfield 15, 3) := by decide +kernel
theorem dX3_init_22 : decode cX3_init 22 = .ok (.aload_n 0, 1) := by decide +kernel
theorem dX3_init_23 : decode cX3_init 23 = .ok (.sipush 512, 3) := by decide +kernel
theorem dX3_init_26 : decode cX3_init 26 = .ok (.newarray .int, 2) := by decide +kernel
theorem dX3_init_28 : decode cX3_init 28 = .ok (.putfield 18, 3) := by decide +kernel
theorem dX3_init_31 : decode cX3_init 31 = .ok (.aload_n 0, 1) := by decide +kernel
theorem dX3_init_32 : decode cX3_init 32 = .ok (.sipush 512, 3) := by decide +kernel
theorem dX3_init_35 : decode cX3_init 35 = .ok (.newarray .int, 2) := by decide +kernel
theorem dX3_init_37 : decode cX3_init 37 = .ok (.putfield 21, 3) := by decide +kernel
theorem dX3_init_40 : decode cX3_init 40 = .ok (.aload_n 0, 1) := by decide +kernel
theorem dX3_init_41 : decode cX3_init 41 = .ok (.iconst 0, 1) := by decide +kernel
theorem dX3_init_42 : decode cX3_init 42 = .ok (.putfield 24, 3) := by decide +kernel
theorem dX3_init_45 : decode cX3_init 45 = .ok (.return_, 1) := by decide +kernel
theorem dX3_suffices_0 : decode cX3_suffices 0 = .ok (.iconst 0, 1) := by decide +kernel
theorem dX3_suffices_1 : decode cX3_suffices 1 = .ok (.istore 4, 2) := by decide +kernel
theorem dX3_suffices_3 : decode cX3_suffices 3 = .ok (.iload 4, 2) := by decide +kernel
theorem dX3_suffices_5 : decode cX3_suffices 5 = .ok (.aload_n 0, 1) := by decide +kernel
theorem dX3_suffices_6 : decode cX3_suffices 6 = .ok (.getfield 24, 3) := by decide +kernel
theorem dX3_suffices_9 : decode cX3_suffices 9 = .ok (.if_icmp .ge 44, 3) := by decide +kernel
theorem dX3_suffices_12 : decode cX3_suffices 12 = .ok (.aload_n 0, 1) := by decide +kernel
theorem dX3_suffices_13 : decode cX3_suffices 13 = .ok (.getfield 18, 3) := by decide +kernel
theorem dX3_suffices_16 : decode cX3_suffices 16 = .ok (.iload 4, 2) := by decide +kernel
theorem dX3_suffices_18 : decode cX3_suffices 18 = .ok (.iaload, 1) := by decide +kernel
theorem dX3_suffices_19 : decode cX3_suffices 19 = .ok (.iload_n 2, 1) := by decide +kernel
theorem dX3_suffices_20 : decode cX3_suffices 20 = .ok (.if_icmp .ne 27, 3) := by decide +kernel
theorem dX3_suffices_23 : decode cX3_suffices 23 = .ok (.aload_n 0, 1) := by decide +kernel
theorem dX3_suffices_24 : decode cX3_suffices 24 = .ok (.getfield 15, 3) := by decide +kernel
theorem dX3_suffices_27 : decode cX3_suffices 27 = .ok (.iload 4, 2) := by decide +kernel
theorem dX3_suffices_29 : decode cX3_suffices 29 = .ok (.iaload, 1) := by decide +kernel
theorem dX3_suffices_30 : decode cX3_suffices 30 = .ok (.iload_n 1, 1) := by decide +kernel
theorem dX3_suffices_31 : decode cX3_suffices 31 = .ok (.if_icmp .ne 16, 3) := by decide +kernel
theorem dX3_suffices_34 : decode cX3_suffices 34 = .ok (.aload_n 0, 1) := by decide +kernel
theorem dX3_suffices_35 : decode cX3_suffices 35 = .ok (.getfield 21, 3) := by decide +kernel
theorem dX3_suffices_38 : decode cX3_suffices 38 = .ok (.iload 4, 2) := by decide +kernel
theorem dX3_suffices_40 : decode cX3_suffices 40 = .ok (.iaload, 1) := by decide +kernel
theorem dX3_suffices_41 : decode cX3_suffices 41 = .ok (.iload_n 3, 1) := by decide +kernel
theorem dX3_suffices_42 : decode cX3_suffices 42 = .ok (.if_icmp .lt 5, 3) := by decide +kernel
theorem dX3_suffices_45 : decode cX3_suffices 45 = .ok (.iconst 1, 1) := by decide +kernel
theorem dX3_suffices_46 : decode cX3_suffices 46 = .ok (.ireturn, 1) := by decide +kernel
theorem dX3_suffices_47 : decode cX3_suffices 47 = .ok (.iinc 4 1, 3) := by decide +kernel
theorem dX3_suffices_50 : decode cX3_suffices 50 = .ok (.goto (-47), 3) := by decide +kernel
theorem dX3_suffices_53 : decode cX3_suffices 53 = .ok (.iconst 0, 1) := by decide +kernel
theorem dX3_suffices_54 : decode cX3_suffices 54 = .ok (.ireturn, 1) := by decide +kernel
theorem dX3_leastInConflict_0 : decode cX3_leastInConflict 0 = .ok (.iconst 0, 1) := by decide +kernel
theorem dX3_leastInConflict_1 : decode cX3_leastInConflict 1 = .ok (.istore 4, 2) := by decide +kernel
theorem dX3_leastInConflict_3 : decode cX3_leastInConflict 3 = .ok (.iload 4, 2) := by decide +kernel
theorem dX3_leastInConflict_5 : decode cX3_leastInConflict 5 = .ok (.aload_n 0, 1) := by decide +kernel
theorem dX3_leastInConflict_6 : decode cX3_leastInConflict 6 = .ok (.getfield 24, 3) := by decide +kernel
theorem dX3_leastInConflict_9 : decode cX3_leastInConflict 9 = .ok (.if_icmp .ge 67, 3) := by decide +kernel
theorem dX3_leastInConflict_12 : decode cX3_leastInConflict 12 = .ok (.iload_n 3, 1) := by decide +kernel
theorem dX3_leastInConflict_13 : decode cX3_leastInConflict 13 = .ok (.iconst 2, 1) := by decide +kernel
theorem dX3_leastInConflict_14 : decode cX3_leastInConflict 14 = .ok (.if_icmp .eq 14, 3) := by decide +kernel
theorem dX3_leastInConflict_17 : decode cX3_leastInConflict 17 = .ok (.aload_n 0, 1) := by decide +kernel
theorem dX3_leastInConflict_18 : decode cX3_leastInConflict 18 = .ok (.getfield 21, 3) := by decide +kernel
theorem dX3_leastInConflict_21 : decode cX3_leastInConflict 21 = .ok (.iload 4, 2) := by decide +kernel
theorem dX3_leastInConflict_23 : decode cX3_leastInConflict 23 = .ok (.iaload, 1) := by decide +kernel
theorem dX3_leastInConflict_24 : decode cX3_leastInConflict 24 = .ok (.iconst 2, 1) := by decide +kernel
theorem dX3_leastInConflict_25 : decode cX3_leastInConflict 25 = .ok (.if_icmp .ne 7, 3) := by decide +kernel
theorem dX3_leastInConflict_28 : decode cX3_leastInConflict 28 = .ok (.iconst 1, 1) := by decide +kernel
theorem dX3_leastInConflict_29 : decode cX3_leastInConflict 29 = .ok (.goto 4, 3) := by decide +kernel
theorem dX3_leastInConflict_32 : decode cX3_leastInConflict 32 = .ok (.iconst 0, 1) := by decide +kernel
theorem dX3_leastInConflict_33 : decode cX3_leastInConflict 33 = .ok (.istore 5, 2) := by decide +kernel
theorem dX3_leastInConflict_35 : decode cX3_leastInConflict 35 = .ok (.aload_n 0, 1) := by decide +kernel
theorem dX3_leastInConflict_36 : decode cX3_leastInConflict 36 = .ok (.getfield 18, 3) := by decide +kernel
theorem dX3_leastInConflict_39 : decode cX3_leastInConflict 39 = .ok (.iload 4, 2) := by decide +kernel
theorem dX3_leastInConflict_41 : decode cX3_leastInConflict 41 = .ok (.iaload, 1) := by decide +kernel
theorem dX3_leastInConflict_42 : decode cX3_leastInConflict 42 = .ok (.iload_n 2, 1) := by decide +kernel
theorem dX3_leastInConflict_43 : decode cX3_leastInConflict 43 = .ok (.if_icmp .ne 27, 3) := by decide +kernel
theorem dX3_leastInConflict_46 : decode cX3_leastInConflict 46 = .ok (.aload_n 0, 1) := by decide +kernel
theorem dX3_leastInConflict_47 : decode cX3_leastInConflict 47 = .ok (.getfield 15, 3) := by decide +kernel
theorem dX3_leastInConflict_50 : decode cX3_leastInConflict 50 = .ok (.iload 4, 2) := by decide +kernel
theorem dX3_leastInConflict_52 : decode cX3_leastInConflict 52 = .ok (.iaload, 1) := by decide +kernel
theorem dX3_leastInConflict_53 : decode cX3_leastInConflict 53 = .ok (.iload_n 1, 1) := by decide +kernel
theorem dX3_leastInConflict_54 : decode cX3_leastInConflict 54 = .ok (.if_icmp .eq 16, 3) := by decide +kernel
theorem dX3_leastInConflict_57 : decode cX3_leastInConflict 57 = .ok (.iload 5, 2) := by decide +kernel
theorem dX3_leastInConflict_59 : decode cX3_leastInConflict 59 = .ok (.ifCond .eq 11, 3) := by decide +kernel
end
section
theorem dX3_leastInConflict_62 : decode cX3_leastInConflict 62 = .ok (.aload_n 0, 1) := by decide +kernel
theorem dX3_leastInConflict_63 : decode cX3_leastInConflict 63 = .ok (.getfield 9, 3) := by decide +kernel
theorem dX3_leastInConflict_66 : decode cX3_leastInConflict 66 = .ok (.iload 4, 2) := by decide +kernel
theorem dX3_leastInConflict_68 : decode cX3_leastInConflict 68 = .ok (.iaload, 1) := by decide +kernel
theorem dX3_leastInConflict_69 : decode cX3_leastInConflict 69 = .ok (.ireturn, 1) := by decide +kernel
theorem dX3_leastInConflict_70 : decode cX3_leastInConflict 70 = .ok (.iinc 4 1, 3) := by decide +kernel
theorem dX3_leastInConflict_73 : decode cX3_leastInConflict 73 = .ok (.goto (-70), 3) := by decide +kernel
theorem dX3_leastInConflict_76 : decode cX3_leastInConflict 76 = .ok (.iconst (-1), 1) := by decide +kernel
theorem dX3_leastInConflict_77 : decode cX3_leastInConflict 77 = .ok (.ireturn, 1) := by decide +kernel
set_option maxRecDepth 20000 in
theorem ggX3_note_X3_copy : GoodIn wsX3_note wsX3_copy := goodIn_r _ [10, 2, 5, 3, 4, 11, 12, 13, 14, 15] (by decide +kernel) (by decide +kernel)
set_option maxRecDepth 20000 in
theorem gX3_note_X3_copy : GoodIn wsX3_note (wsV RX3 28 RX3 yX3_copy wsX3_copy) := goodIn_app (goodIn_of _ (by decide +kernel)) ggX3_note_X3_copy
theorem dX3_note_0 : decode cX3_note 0 = .ok (.iconst 0, 1) := by decide +kernel
theorem dX3_note_1 : decode cX3_note 1 = .ok (.istore 5, 2) := by decide +kernel
theorem dX3_note_3 : decode cX3_note 3 = .ok (.iload 5, 2) := by decide +kernel
theorem dX3_note_5 : decode cX3_note 5 = .ok (.aload_n 0, 1) := by decide +kernel
theorem dX3_note_6 : decode cX3_note 6 = .ok (.getfield 24, 3) := by decide +kernel
theorem dX3_note_9 : decode cX3_note 9 = .ok (.if_icmp .ge 53, 3) := by decide +kernel
theorem dX3_note_12 : decode cX3_note 12 = .ok (.aload_n 0, 1) := by decide +kernel
theorem dX3_note_13 : decode cX3_note 13 = .ok (.getfield 9, 3) := by decide +kernel
theorem dX3_note_16 : decode cX3_note 16 = .ok (.iload 5, 2) := by decide +kernel
theorem dX3_note_18 : decode cX3_note 18 = .ok (.iaload, 1) := by decide +kernel
theorem dX3_note_19 : decode cX3_note 19 = .ok (.iload_n 1, 1) := by decide +kernel
theorem dX3_note_20 : decode cX3_note 20 = .ok (.if_icmp .gt 42, 3) := by decide +kernel
theorem dX3_note_23 : decode cX3_note 23 = .ok (.aload_n 0, 1) := by decide +kernel
theorem dX3_note_24 : decode cX3_note 24 = .ok (.getfield 9, 3) := by decide +kernel
theorem dX3_note_27 : decode cX3_note 27 = .ok (.iload 5, 2) := by decide +kernel
theorem dX3_note_29 : decode cX3_note 29 = .ok (.iaload, 1) := by decide +kernel
theorem dX3_note_30 : decode cX3_note 30 = .ok (.iload_n 1, 1) := by decide +kernel
theorem dX3_note_31 : decode cX3_note 31 = .ok (.if_icmp .ne 25, 3) := by decide +kernel
theorem dX3_note_34 : decode cX3_note 34 = .ok (.aload_n 0, 1) := by decide +kernel
theorem dX3_note_35 : decode cX3_note 35 = .ok (.getfield 18, 3) := by decide +kernel
theorem dX3_note_38 : decode cX3_note 38 = .ok (.iload 5, 2) := by decide +kernel
theorem dX3_note_40 : decode cX3_note 40 = .ok (.iaload, 1) := by decide +kernel
theorem dX3_note_41 : decode cX3_note 41 = .ok (.iload_n 3, 1) := by decide +kernel
theorem dX3_note_42 : decode cX3_note 42 = .ok (.if_icmp .ne 14, 3) := by decide +kernel
theorem dX3_note_45 : decode cX3_note 45 = .ok (.aload_n 0, 1) := by decide +kernel
theorem dX3_note_46 : decode cX3_note 46 = .ok (.getfield 21, 3) := by decide +kernel
theorem dX3_note_49 : decode cX3_note 49 = .ok (.iload 5, 2) := by decide +kernel
theorem dX3_note_51 : decode cX3_note 51 = .ok (.iload 4, 2) := by decide +kernel
theorem dX3_note_53 : decode cX3_note 53 = .ok (.iastore, 1) := by decide +kernel
theorem dX3_note_54 : decode cX3_note 54 = .ok (.iconst 1, 1) := by decide +kernel
theorem dX3_note_55 : decode cX3_note 55 = .ok (.ireturn, 1) := by decide +kernel
theorem dX3_note_56 : decode cX3_note 56 = .ok (.iinc 5 1, 3) := by decide +kernel
theorem dX3_note_59 : decode cX3_note 59 = .ok (.goto (-56), 3) := by decide +kernel
theorem dX3_note_62 : decode cX3_note 62 = .ok (.aload_n 0, 1) := by decide +kernel
theorem dX3_note_63 : decode cX3_note 63 = .ok (.getfield 24, 3) := by decide +kernel
theorem dX3_note_66 : decode cX3_note 66 = .ok (.sipush 512, 3) := by decide +kernel
theorem dX3_note_69 : decode cX3_note 69 = .ok (.if_icmp .lt 5, 3) := by decide +kernel
theorem dX3_note_72 : decode cX3_note 72 = .ok (.iconst 0, 1) := by decide +kernel
theorem dX3_note_73 : decode cX3_note 73 = .ok (.ireturn, 1) := by decide +kernel
theorem dX3_note_74 : decode cX3_note 74 = .ok (.aload_n 0, 1) := by decide +kernel
theorem dX3_note_75 : decode cX3_note 75 = .ok (.getfield 24, 3) := by decide +kernel
theorem dX3_note_78 : decode cX3_note 78 = .ok (.istore 6, 2) := by decide +kernel
theorem dX3_note_80 : decode cX3_note 80 = .ok (.iload 6, 2) := by decide +kernel
theorem dX3_note_82 : decode cX3_note 82 = .ok (.iload 5, 2) := by decide +kernel
theorem dX3_note_84 : decode cX3_note 84 = .ok (.if_icmp .le 19, 3) := by decide +kernel
theorem dX3_note_87 : decode cX3_note 87 = .ok (.aload_n 0, 1) := by decide +kernel
theorem dX3_note_88 : decode cX3_note 88 = .ok (.iload 6, 2) := by decide +kernel
theorem dX3_note_90 : decode cX3_note 90 = .ok (.iconst 1, 1) := by decide +kernel
theorem dX3_note_91 : decode cX3_note 91 = .ok (.isub, 1) := by decide +kernel
theorem dX3_note_92 : decode cX3_note 92 = .ok (.iload 6, 2) := by decide +kernel
theorem dX3_note_94 : decode cX3_note 94 = .ok (.invokevirtual 28, 3) := by decide +kernel
theorem dX3_note_97 : decode cX3_note 97 = .ok (.iinc 6 (-1), 3) := by decide +kernel
theorem dX3_note_100 : decode cX3_note 100 = .ok (.goto (-20), 3) := by decide +kernel
theorem dX3_note_103 : decode cX3_note 103 = .ok (.aload_n 0, 1) := by decide +kernel
theorem dX3_note_104 : decode cX3_note 104 = .ok (.getfield 9, 3) := by decide +kernel
theorem dX3_note_107 : decode cX3_note 107 = .ok (.iload 5, 2) := by decide +kernel
theorem dX3_note_109 : decode cX3_note 109 = .ok (.iload_n 1, 1) := by decide +kernel
theorem dX3_note_110 : decode cX3_note 110 = .ok (.iastore, 1) := by decide +kernel
theorem dX3_note_111 : decode cX3_note 111 = .ok (.aload_n 0, 1) := by decide +kernel
theorem dX3_note_112 : decode cX3_note 112 = .ok (.getfield 15, 3) := by decide +kernel
theorem dX3_note_115 : decode cX3_note 115 = .ok (.iload 5, 2) := by decide +kernel
theorem dX3_note_117 : decode cX3_note 117 = .ok (.iload_n 2, 1) := by decide +kernel
theorem dX3_note_118 : decode cX3_note 118 = .ok (.iastore, 1) := by decide +kernel
theorem dX3_note_119 : decode cX3_note 119 = .ok (.aload_n 0, 1) := by decide +kernel
theorem dX3_note_120 : decode cX3_note 120 = .ok (.getfield 18, 3) := by decide +kernel
theorem dX3_note_123 : decode cX3_note 123 = .ok (.iload 5, 2) := by decide +kernel
theorem dX3_note_125 : decode cX3_note 125 = .ok (.iload_n 3, 1) := by decide +kernel
theorem dX3_note_126 : decode cX3_note 126 = .ok (.iastore, 1) := by decide +kernel
theorem dX3_note_127 : decode cX3_note 127 = .ok (.aload_n 0, 1) := by decide +kernel
theorem dX3_note_128 : decode cX3_note 128 = .ok (.getfield 21, 3) := by decide +kernel
theorem dX3_note_131 : decode cX3_note 131 = .ok (.iload 5, 2) := by decide +kernel
theorem dX3_note_133 : decode cX3_note 133 = .ok (.iload 4, 2) := by decide +kernel
theorem dX3_note_135 : decode cX3_note 135 = .ok (.iastore, 1) := by decide +kernel
theorem dX3_note_136 : decode cX3_note 136 = .ok (.aload_n 0, 1) := by decide +kernel
theorem dX3_note_137 : decode cX3_note 137 = .ok (.dup, 1) := by decide +kernel
theorem dX3_note_138 : decode cX3_note 138 = .ok (.getfield 24, 3) := by decide +kernel
theorem dX3_note_141 : decode cX3_note 141 = .ok (.iconst 1, 1) := by decide +kernel
theorem dX3_note_142 : decode cX3_note 142 = .ok (.iadd, 1) := by decide +kernel
theorem dX3_note_143 : decode cX3_note 143 = .ok (.putfield 24, 3) := by decide +kernel
theorem dX3_note_146 : decode cX3_note 146 = .ok (.iconst 1, 1) := by decide +kernel
theorem dX3_note_147 : decode cX3_note 147 = .ok (.ireturn, 1) := by decide +kernel
set_option maxRecDepth 20000 in
theorem ggX3_forgetNumber_X3_forgetWhere : GoodIn wsX3_forgetNumber wsX3_forgetWhere := goodIn_r _ [6, 7, 8, 9, 10, 5, 11, 1, 12, 13, 14, 15, 16, 17, 18, 19] (by decide +kernel) (by decide +kernel)
set_option maxRecDepth 20000 in
theorem gX3_forgetNumber_X3_forgetWhere : GoodIn wsX3_forgetNumber (wsV RX3 32 RX3 yX3_forgetWhere wsX3_forgetWhere) := goodIn_app (goodIn_of _ (by decide +kernel)) ggX3_forgetNumber_X3_forgetWhere
theorem dX3_forgetNumber_0 : decode cX3_forgetNumber 0 = .ok (.aload_n 0, 1) := by decide +kernel
theorem dX3_forgetNumber_1 : decode cX3_forgetNumber 1 = .ok (.aload_n 0, 1) := by decide +kernel
theorem dX3_forgetNumber_2 : decode cX3_forgetNumber 2 = .ok (.getfield 9, 3) := by decide +kernel
theorem dX3_forgetNumber_5 : decode cX3_forgetNumber 5 = .ok (.iload_n 1, 1) := by decide +kernel
theorem dX3_forgetNumber_6 : decode cX3_forgetNumber 6 = .ok (.invokevirtual 32, 3) := by decide +kernel
theorem dX3_forgetNumber_9 : decode cX3_forgetNumber 9 = .ok (.return_, 1) := by decide +kernel
set_option maxRecDepth 20000 in
theorem ggX3_forgetRow_X3_forgetWhere : GoodIn wsX3_forgetRow wsX3_forgetWhere := goodIn_r _ [6, 7, 8, 9, 10, 5, 11, 12, 13, 1, 14, 15, 16, 17, 18, 19] (by decide +kernel) (by decide +kernel)
set_option maxRecDepth 20000 in
theorem gX3_forgetRow_X3_forgetWhere : GoodIn wsX3_forgetRow (wsV RX3 32 RX3 yX3_forgetWhere wsX3_forgetWhere) := goodIn_app (goodIn_of _ (by decide +kernel)) ggX3_forgetRow_X3_forgetWhere
theorem dX3_forgetRow_0 : decode cX3_forgetRow 0 = .ok (.aload_n 0, 1) := by decide +kernel
theorem dX3_forgetRow_1 : decode cX3_forgetRow 1 = .ok (.aload_n 0, 1) := by decide +kernel
theorem dX3_forgetRow_2 : decode cX3_forgetRow 2 = .ok (.getfield 18, 3) := by decide +kernel
theorem dX3_forgetRow_5 : decode cX3_forgetRow 5 = .ok (.iload_n 1, 1) := by decide +kernel
theorem dX3_forgetRow_6 : decode cX3_forgetRow 6 = .ok (.invokevirtual 32, 3) := by decide +kernel
theorem dX3_forgetRow_9 : decode cX3_forgetRow 9 = .ok (.return_, 1) := by decide +kernel
theorem dX3_signedNumberAt_0 : decode cX3_signedNumberAt 0 = .ok (.iconst 0, 1) := by decide +kernel
theorem dX3_signedNumberAt_1 : decode cX3_signedNumberAt 1 = .ok (.istore_n 3, 1) := by decide +kernel
theorem dX3_signedNumberAt_2 : decode cX3_signedNumberAt 2 = .ok (.iconst 0, 1) := by decide +kernel
theorem dX3_signedNumberAt_3 : decode cX3_signedNumberAt 3 = .ok (.istore 4, 2) := by decide +kernel
theorem dX3_signedNumberAt_5 : decode cX3_signedNumberAt 5 = .ok (.iload 4, 2) := by decide +kernel
theorem dX3_signedNumberAt_7 : decode cX3_signedNumberAt 7 = .ok (.aload_n 0, 1) := by decide +kernel
theorem dX3_signedNumberAt_8 : decode cX3_signedNumberAt 8 = .ok (.getfield 24, 3) := by decide +kernel
theorem dX3_signedNumberAt_11 : decode cX3_signedNumberAt 11 = .ok (.if_icmp .ge 61, 3) := by decide +kernel
theorem dX3_signedNumberAt_14 : decode cX3_signedNumberAt 14 = .ok (.aload_n 0, 1) := by decide +kernel
theorem dX3_signedNumberAt_15 : decode cX3_signedNumberAt 15 = .ok (.getfield 18, 3) := by decide +kernel
theorem dX3_signedNumberAt_18 : decode cX3_signedNumberAt 18 = .ok (.iload 4, 2) := by decide +kernel
theorem dX3_signedNumberAt_20 : decode cX3_signedNumberAt 20 = .ok (.iaload, 1) := by decide +kernel
theorem dX3_signedNumberAt_21 : decode cX3_signedNumberAt 21 = .ok (.iload_n 1, 1) := by decide +kernel
theorem dX3_signedNumberAt_22 : decode cX3_signedNumberAt 22 = .ok (.if_icmp .eq 6, 3) := by decide +kernel
theorem dX3_signedNumberAt_25 : decode cX3_signedNumberAt 25 = .ok (.goto 41, 3) := by decide +kernel
theorem dX3_signedNumberAt_28 : decode cX3_signedNumberAt 28 = .ok (.iload_n 3, 1) := by decide +kernel
theorem dX3_signedNumberAt_29 : decode cX3_signedNumberAt 29 = .ok (.iload_n 2, 1) := by decide +kernel
theorem dX3_signedNumberAt_30 : decode cX3_signedNumberAt 30 = .ok (.if_icmp .ne 33, 3) := by decide +kernel
theorem dX3_signedNumberAt_33 : decode cX3_signedNumberAt 33 = .ok (.aload_n 0, 1) := by decide +kernel
theorem dX3_signedNumberAt_34 : decode cX3_signedNumberAt 34 = .ok (.getfield 21, 3) := by decide +kernel
theorem dX3_signedNumberAt_37 : decode cX3_signedNumberAt 37 = .ok (.iload 4, 2) := by decide +kernel
theorem dX3_signedNumberAt_39 : decode cX3_signedNumberAt 39 = .ok (.iaload, 1) := by decide +kernel
theorem dX3_signedNumberAt_40 : decode cX3_signedNumberAt 40 = .ok (.iconst 2, 1) := by decide +kernel
theorem dX3_signedNumberAt_41 : decode cX3_signedNumberAt 41 = .ok (.if_icmp .ne 13, 3) := by decide +kernel
theorem dX3_signedNumberAt_44 : decode cX3_signedNumberAt 44 = .ok (.aload_n 0, 1) := by decide +kernel
theorem dX3_signedNumberAt_45 : decode cX3_signedNumberAt 45 = .ok (.getfield 9, 3) := by decide +kernel
theorem dX3_signedNumberAt_48 : decode cX3_signedNumberAt 48 = .ok (.iload 4, 2) := by decide +kernel
theorem dX3_signedNumberAt_50 : decode cX3_signedNumberAt 50 = .ok (.iaload, 1) := by decide +kernel
theorem dX3_signedNumberAt_51 : decode cX3_signedNumberAt 51 = .ok (.goto 11, 3) := by decide +kernel
theorem dX3_signedNumberAt_54 : decode cX3_signedNumberAt 54 = .ok (.aload_n 0, 1) := by decide +kernel
theorem dX3_signedNumberAt_55 : decode cX3_signedNumberAt 55 = .ok (.getfield 9, 3) := by decide +kernel
theorem dX3_signedNumberAt_58 : decode cX3_signedNumberAt 58 = .ok (.iload 4, 2) := by decide +kernel
theorem dX3_signedNumberAt_60 : decode cX3_signedNumberAt 60 = .ok (.iaload, 1) := by decide +kernel
theorem dX3_signedNumberAt_61 : decode cX3_signedNumberAt 61 = .ok (.ineg, 1) := by decide +kernel
theorem dX3_signedNumberAt_62 : decode cX3_signedNumberAt 62 = .ok (.ireturn, 1) := by decide +kernel
theorem dX3_signedNumberAt_63 : decode cX3_signedNumberAt 63 = .ok (.iinc 3 1, 3) := by decide +kernel
theorem dX3_signedNumberAt_66 : decode cX3_signedNumberAt 66 = .ok (.iinc 4 1, 3) := by decide +kernel
theorem dX3_signedNumberAt_69 : decode cX3_signedNumberAt 69 = .ok (.goto (-64), 3) := by decide +kernel
theorem dX3_signedNumberAt_72 : decode cX3_signedNumberAt 72 = .ok (.iconst 0, 1) := by decide +kernel
theorem dX3_signedNumberAt_73 : decode cX3_signedNumberAt 73 = .ok (.ireturn, 1) := by decide +kernel
set_option maxRecDepth 20000 in
theorem ggX3_forgetWhere_X3_copy : GoodIn wsX3_forgetWhere wsX3_copy := goodIn_r _ [6, 7, 8, 9, 10, 11, 12, 13, 14, 15] (by decide +kernel) (by decide +kernel)
set_option maxRecDepth 20000 in
theorem gX3_forgetWhere_X3_copy : GoodIn wsX3_forgetWhere (wsV RX3 28 RX3 yX3_copy wsX3_copy) := goodIn_app (goodIn_of _ (by decide +kernel)) ggX3_forgetWhere_X3_copy
theorem dX3_forgetWhere_0 : decode cX3_forgetWhere 0 = .ok (.iconst 0, 1) := by decide +kernel
theorem dX3_forgetWhere_1 : decode cX3_forgetWhere 1 = .ok (.istore_n 3, 1) := by decide +kernel
theorem dX3_forgetWhere_2 : decode cX3_forgetWhere 2 = .ok (.iconst 0, 1) := by decide +kernel
theorem dX3_forgetWhere_3 : decode cX3_forgetWhere 3 = .ok (.istore 4, 2) := by decide +kernel
theorem dX3_forgetWhere_5 : decode cX3_forgetWhere 5 = .ok (.iload 4, 2) := by decide +kernel
theorem dX3_forgetWhere_7 : decode cX3_forgetWhere 7 = .ok (.aload_n 0, 1) := by decide +kernel
theorem dX3_forgetWhere_8 : decode cX3_forgetWhere 8 = .ok (.getfield 24, 3) := by decide +kernel
theorem dX3_forgetWhere_11 : decode cX3_forgetWhere 11 = .ok (.if_icmp .ge 27, 3) := by decide +kernel
theorem dX3_forgetWhere_14 : decode cX3_forgetWhere 14 = .ok (.aload_n 1, 1) := by decide +kernel
theorem dX3_forgetWhere_15 : decode cX3_forgetWhere 15 = .ok (.iload 4, 2) := by decide +kernel
theorem dX3_forgetWhere_17 : decode cX3_forgetWhere 17 = .ok (.iaload, 1) := by decide +kernel
theorem dX3_forgetWhere_18 : decode cX3_forgetWhere 18 = .ok (.iload_n 2, 1) := by decide +kernel
theorem dX3_forgetWhere_19 : decode cX3_forgetWhere 19 = .ok (.if_icmp .eq 13, 3) := by decide +kernel
theorem dX3_forgetWhere_22 : decode cX3_forgetWhere 22 = .ok (.aload_n 0, 1) := by decide +kernel
theorem dX3_forgetWhere_23 : decode cX3_forgetWhere 23 = .ok (.iload 4, 2) := by decide +kernel
theorem dX3_forgetWhere_25 : decode cX3_forgetWhere 25 = .ok (.iload_n 3, 1) := by decide +kernel
theorem dX3_forgetWhere_26 : decode cX3_forgetWhere 26 = .ok (.invokevirtual 28, 3) := by decide +kernel
theorem dX3_forgetWhere_29 : decode cX3_forgetWhere 29 = .ok (.iinc 3 1, 3) := by decide +kernel
theorem dX3_forgetWhere_32 : decode cX3_forgetWhere 32 = .ok (.iinc 4 1, 3) := by decide +kernel
theorem dX3_forgetWhere_35 : decode cX3_forgetWhere 35 = .ok (.goto (-30), 3) := by decide +kernel
theorem dX3_forgetWhere_38 : decode cX3_forgetWhere 38 = .ok (.aload_n 0, 1) := by decide +kernel
theorem dX3_forgetWhere_39 : decode cX3_forgetWhere 39 = .ok (.iload_n 3, 1) := by decide +kernel
theorem dX3_forgetWhere_40 : decode cX3_forgetWhere 40 = .ok (.putfield 24, 3) := by decide +kernel
theorem dX3_forgetWhere_43 : decode cX3_forgetWhere 43 = .ok (.return_, 1) := by decide +kernel
theorem dX3_copy_0 : decode cX3_copy 0 = .ok (.aload_n 0, 1) := by decide +kernel
theorem dX3_copy_1 : decode cX3_copy 1 = .ok (.getfield 9, 3) := by decide +kernel
theorem dX3_copy_4 : decode cX3_copy 4 = .ok (.iload_n 2, 1) := by decide +kernel
theorem dX3_copy_5 : decode cX3_copy 5 = .ok (.aload_n 0, 1) := by decide +kernel
theorem dX3_copy_6 : decode cX3_copy 6 = .ok (.getfield 9, 3) := by decide +kernel
theorem dX3_copy_9 : decode cX3_copy 9 = .ok (.iload_n 1, 1) := by decide +kernel
theorem dX3_copy_10 : decode cX3_copy 10 = .ok (.iaload, 1) := by decide +kernel
theorem dX3_copy_11 : decode cX3_copy 11 = .ok (.iastore, 1) := by decide +kernel
theorem dX3_copy_12 : decode cX3_copy 12 = .ok (.aload_n 0, 1) := by decide +kernel
theorem dX3_copy_13 : decode cX3_copy 13 = .ok (.getfield 15, 3) := by decide +kernel
theorem dX3_copy_16 : decode cX3_copy 16 = .ok (.iload_n 2, 1) := by decide +kernel
theorem dX3_copy_17 : decode cX3_copy 17 = .ok (.aload_n 0, 1) := by decide +kernel
theorem dX3_copy_18 : decode cX3_copy 18 = .ok (.getfield 15, 3) := by decide +kernel
theorem dX3_copy_21 : decode cX3_copy 21 = .ok (.iload_n 1, 1) := by decide +kernel
theorem dX3_copy_22 : decode cX3_copy 22 = .ok (.iaload, 1) := by decide +kernel
theorem dX3_copy_23 : decode cX3_copy 23 = .ok (.iastore, 1) := by decide +kernel
theorem dX3_copy_24 : decode cX3_copy 24 = .ok (.aload_n 0, 1) := by decide +kernel
theorem dX3_copy_25 : decode cX3_copy 25 = .ok (.getfield 18, 3) := by decide +kernel
theorem dX3_copy_28 : decode cX3_copy 28 = .ok (.iload_n 2, 1) := by decide +kernel
theorem dX3_copy_29 : decode cX3_copy 29 = .ok (.aload_n 0, 1) := by decide +kernel
theorem dX3_copy_30 : decode cX3_copy 30 = .ok (.getfield 18, 3) := by decide +kernel
theorem dX3_copy_33 : decode cX3_copy 33 = .ok (.iload_n 1, 1) := by decide +kernel
theorem dX3_copy_34 : decode cX3_copy 34 = .ok (.iaload, 1) := by decide +kernel
theorem dX3_copy_35 : decode cX3_copy 35 = .ok (.iastore, 1) := by decide +kernel
theorem dX3_copy_36 : decode cX3_copy 36 = .ok (.aload_n 0, 1) := by decide +kernel
theorem dX3_copy_37 : decode cX3_copy 37 = .ok (.getfield 21, 3) := by decide +kernel
theorem dX3_copy_40 : decode cX3_copy 40 = .ok (.iload_n 2, 1) := by decide +kernel
theorem dX3_copy_41 : decode cX3_copy 41 = .ok (.aload_n 0, 1) := by decide +kernel
theorem dX3_copy_42 : decode cX3_copy 42 = .ok (.getfield 21, 3) := by decide +kernel
theorem dX3_copy_45 : decode cX3_copy 45 = .ok (.iload_n 1, 1) := by decide +kernel
theorem dX3_copy_46 : decode cX3_copy 46 = .ok (.iaload, 1) := by decide +kernel
theorem dX3_copy_47 : decode cX3_copy 47 = .ok (.iastore, 1) := by decide +kernel
theorem dX3_copy_48 : decode cX3_copy 48 = .ok (.return_, 1) := by decide +kernel
set_option maxRecDepth 20000 in
theorem ggX4_init_X1_init : GoodIn wsX4_init wsX1_init := goodIn_r _ [21, 22, 2, 3, 23, 24, 25, 55, 56] (by decide +kernel) (by decide +kernel)
set_option maxRecDepth 20000 in
theorem gX4_init_X1_init_n9 : GoodIn wsX4_init (wsX1_init) := ggX4_init_X1_init
set_option maxRecDepth 20000 in
theorem ggX4_init_X0_init : GoodIn wsX4_init wsX0_init := goodIn_r _ [28, 29, 2, 3, 23, 30, 31, 32, 33, 34, 61] (by decide +kernel) (by decide +kernel)
set_option maxRecDepth 20000 in
theorem gX4_init_X0_init : GoodIn wsX4_init (wsX0_init) := ggX4_init_X0_init
set_option maxRecDepth 20000 in
theorem ggX4_init_X3_init : GoodIn wsX4_init wsX3_init := goodIn_r _ [36, 37, 2, 3, 38, 39, 40, 41, 42, 43, 62, 63, 64, 65, 66] (by decide +kernel) (by decide +kernel)
set_option maxRecDepth 20000 in
theorem gX4_init_X3_init_n25 : GoodIn wsX4_init (wsX3_init) := ggX4_init_X3_init
set_option maxRecDepth 20000 in
theorem ggX4_init_X2_init : GoodIn wsX4_init wsX2_init := goodIn_r _ [45, 46, 2, 3, 38, 47, 48, 49, 50, 51, 52, 53, 54, 67, 68, 69, 70, 71, 72, 73] (by decide +kernel) (by decide +kernel)
set_option maxRecDepth 20000 in
theorem gX4_init_X2_init_n32 : GoodIn wsX4_init (wsX2_init) := ggX4_init_X2_init
theorem dX4_init_0 : decode cX4_init 0 = .ok (.aload_n 0, 1) := by decide +kernel
theorem dX4_init_1 : decode cX4_init 1 = .ok (.invokespecial 1, 3) := by decide +kernel
theorem dX4_init_4 : decode cX4_init 4 = .ok (.aload_n 0, 1) := by decide +kernel
theorem dX4_init_5 : decode cX4_init 5 = .ok (.new 7, 3) := by decide +kernel
theorem dX4_init_8 : decode cX4_init 8 = .ok (.dup, 1) := by decide +kernel
theorem dX4_init_9 : decode cX4_init 9 = .ok (.invokespecial 9, 3) := by decide +kernel
theorem dX4_init_12 : decode cX4_init 12 = .ok (.putfield 10, 3) := by decide +kernel
theorem dX4_init_15 : decode cX4_init 15 = .ok (.aload_n 0, 1) := by decide +kernel
theorem dX4_init_16 : decode cX4_init 16 = .ok (.new 16, 3) := by decide +kernel
theorem dX4_init_19 : decode cX4_init 19 = .ok (.dup, 1) := by decide +kernel
theorem dX4_init_20 : decode cX4_init 20 = .ok (.invokespecial 18, 3) := by decide +kernel
theorem dX4_init_23 : decode cX4_init 23 = .ok (.putfield 19, 3) := by decide +kernel
theorem dX4_init_26 : decode cX4_init 26 = .ok (.aload_n 0, 1) := by decide +kernel
theorem dX4_init_27 : decode cX4_init 27 = .ok (.new 23, 3) := by decide +kernel
theorem dX4_init_30 : decode cX4_init 30 = .ok (.dup, 1) := by decide +kernel
theorem dX4_init_31 : decode cX4_init 31 = .ok (.invokespecial 25, 3) := by decide +kernel
theorem dX4_init_34 : decode cX4_init 34 = .ok (.putfield 26, 3) := by decide +kernel
theorem dX4_init_37 : decode cX4_init 37 = .ok (.aload_n 0, 1) := by decide +kernel
theorem dX4_init_38 : decode cX4_init 38 = .ok (.new 30, 3) := by decide +kernel
theorem dX4_init_41 : decode cX4_init 41 = .ok (.dup, 1) := by decide +kernel
theorem dX4_init_42 : decode cX4_init 42 = .ok (.invokespecial 32, 3) := by decide +kernel
theorem dX4_init_45 : decode cX4_init 45 = .ok (.putfield 33, 3) := by decide +kernel
theorem dX4_init_48 : decode cX4_init 48 = .ok (.return_, 1) := by decide +kernel
set_option maxRecDepth 20000 in
theorem ggX4_number_X4_isSession : GoodIn wsX4_number wsX4_isSession := goodIn_r _ [5] (by decide +kernel) (by decide +kernel)
set_option maxRecDepth 20000 in
theorem gX4_number_X4_isSession : GoodIn wsX4_number (va_wsS RX4 37 yX4_isSession wsX4_isSession) := goodIn_app (goodIn_of _ (by decide +kernel)) ggX4_number_X4_isSession
set_option maxRecDepth 20000 in
theorem ggX4_number_X1_give : GoodIn wsX4_number wsX1_give := goodIn_r _ [10, 11, 12, 17, 18] (by decide +kernel) (by decide +kernel)
set_option maxRecDepth 20000 in
theorem gX4_number_X1_give : GoodIn wsX4_number (wsV RX4 41 RX1 yX1_give wsX1_give) := goodIn_app (goodIn_of _ (by decide +kernel)) ggX4_number_X1_give
theorem dX4_number_0 : decode cX4_number 0 = .ok (.iload_n 1, 1) := by decide +kernel
theorem dX4_number_1 : decode cX4_number 1 = .ok (.invokestatic 37, 3) := by decide +kernel
theorem dX4_number_4 : decode cX4_number 4 = .ok (.ifCond .eq 14, 3) := by decide +kernel
theorem dX4_number_7 : decode cX4_number 7 = .ok (.aload_n 0, 1) := by decide +kernel
theorem dX4_number_8 : decode cX4_number 8 = .ok (.getfield 10, 3) := by decide +kernel
theorem dX4_number_11 : decode cX4_number 11 = .ok (.iload_n 1, 1) := by decide +kernel
theorem dX4_number_12 : decode cX4_number 12 = .ok (.invokevirtual 41, 3) := by decide +kernel
theorem dX4_number_15 : decode cX4_number 15 = .ok (.goto 4, 3) := by decide +kernel
theorem dX4_number_18 : decode cX4_number 18 = .ok (.iconst (-1), 1) := by decide +kernel
theorem dX4_number_19 : decode cX4_number 19 = .ok (.ireturn, 1) := by decide +kernel
set_option maxRecDepth 20000 in
theorem ggX4_over_X1_runnerOf : GoodIn wsX4_over wsX1_runnerOf := goodIn_r _ [7, 8, 9, 10, 11, 6, 12, 13, 40, 41] (by decide +kernel) (by decide +kernel)
set_option maxRecDepth 20000 in
theorem gX4_over_X1_runnerOf : GoodIn wsX4_over (wsV RX4 45 RX1 yX1_runnerOf wsX1_runnerOf) := goodIn_app (goodIn_of _ (by decide +kernel)) ggX4_over_X1_runnerOf
set_option maxRecDepth 20000 in
theorem ggX4_over_X1_stop : GoodIn wsX4_over wsX1_stop := goodIn_r _ [17, 8, 9, 10, 11, 6, 12, 13, 40, 41] (by decide +kernel) (by decide +kernel)
set_option maxRecDepth 20000 in
theorem gX4_over_X1_stop : GoodIn wsX4_over (wsV RX4 48 RX1 yX1_stop wsX1_stop) := goodIn_app (goodIn_of _ (by decide +kernel)) ggX4_over_X1_stop
set_option maxRecDepth 20000 in
theorem ggX4_over_X3_forgetNumber : GoodIn wsX4_over wsX3_forgetNumber := goodIn_r _ [22, 23, 24, 25, 26, 21, 27, 28, 29, 30, 31, 32, 33, 34, 35, 42, 43, 44, 45, 46] (by decide +kernel) (by decide +kernel)
set_option maxRecDepth 20000 in
theorem gX4_over_X3_forgetNumber : GoodIn wsX4_over (wsV RX4 52 RX3 yX3_forgetNumber wsX3_forgetNumber) := goodIn_app (goodIn_of _ (by decide +kernel)) ggX4_over_X3_forgetNumber
theorem dX4_over_0 : decode cX4_over 0 = .ok (.aload_n 0, 1) := by decide +kernel
theorem dX4_over_1 : decode cX4_over 1 = .ok (.getfield 10, 3) := by decide +kernel
theorem dX4_over_4 : decode cX4_over 4 = .ok (.iload_n 1, 1) := by decide +kernel
theorem dX4_over_5 : decode cX4_over 5 = .ok (.invokevirtual 45, 3) := by decide +kernel
theorem dX4_over_8 : decode cX4_over 8 = .ok (.iconst (-1), 1) := by decide +kernel
theorem dX4_over_9 : decode cX4_over 9 = .ok (.if_icmp .ne 5, 3) := by decide +kernel
theorem dX4_over_12 : decode cX4_over 12 = .ok (.iconst 0, 1) := by decide +kernel
theorem dX4_over_13 : decode cX4_over 13 = .ok (.ireturn, 1) := by decide +kernel
theorem dX4_over_14 : decode cX4_over 14 = .ok (.aload_n 0, 1) := by decide +kernel
theorem dX4_over_15 : decode cX4_over 15 = .ok (.getfield 10, 3) := by decide +kernel
theorem dX4_over_18 : decode cX4_over 18 = .ok (.iload_n 1, 1) := by decide +kernel
theorem dX4_over_19 : decode cX4_over 19 = .ok (.invokevirtual 48, 3) := by decide +kernel
theorem dX4_over_22 : decode cX4_over 22 = .ok (.aload_n 0, 1) := by decide +kernel
theorem dX4_over_23 : decode cX4_over 23 = .ok (.getfield 26, 3) := by decide +kernel
theorem dX4_over_26 : decode cX4_over 26 = .ok (.iload_n 1, 1) := by decide +kernel
theorem dX4_over_27 : decode cX4_over 27 = .ok (.invokevirtual 52, 3) := by decide +kernel
theorem dX4_over_30 : decode cX4_over 30 = .ok (.iconst 1, 1) := by decide +kernel
theorem dX4_over_31 : decode cX4_over 31 = .ok (.ireturn, 1) := by decide +kernel
set_option maxRecDepth 20000 in
theorem ggX4_ask_X4_isSession : GoodIn wsX4_ask wsX4_isSession := goodIn_r _ [6] (by decide +kernel) (by decide +kernel)
set_option maxRecDepth 20000 in
theorem gX4_ask_X4_isSession : GoodIn wsX4_ask (va_wsS RX4 37 yX4_isSession wsX4_isSession) := goodIn_app (goodIn_of _ (by decide +kernel)) ggX4_ask_X4_isSession
set_option maxRecDepth 20000 in
theorem ggX4_ask_X4_isLevel : GoodIn wsX4_ask wsX4_isLevel := goodIn_r _ [9] (by decide +kernel) (by decide +kernel)
set_option maxRecDepth 20000 in
theorem gX4_ask_X4_isLevel : GoodIn wsX4_ask (va_wsS RX4 55 yX4_isLevel wsX4_isLevel) := goodIn_app (goodIn_of _ (by decide +kernel)) ggX4_ask_X4_isLevel
set_option maxRecDepth 20000 in
theorem ggX4_ask_X4_isTable : GoodIn wsX4_ask wsX4_isTable := goodIn_r _ [12] (by decide +kernel) (by decide +kernel)
set_option maxRecDepth 20000 in
theorem gX4_ask_X4_isTable : GoodIn wsX4_ask (va_wsS RX4 58 yX4_isTable wsX4_isTable) := goodIn_app (goodIn_of _ (by decide +kernel)) ggX4_ask_X4_isTable
set_option maxRecDepth 20000 in
theorem ggX4_ask_X4_isMode : GoodIn wsX4_ask wsX4_isMode := goodIn_r _ [15] (by decide +kernel) (by decide +kernel)
set_option maxRecDepth 20000 in
theorem gX4_ask_X4_isMode : GoodIn wsX4_ask (va_wsS RX4 61 yX4_isMode wsX4_isMode) := goodIn_app (goodIn_of _ (by decide +kernel)) ggX4_ask_X4_isMode
set_option maxRecDepth 20000 in
theorem ggX4_ask_X2_contains : GoodIn wsX4_ask wsX2_contains := goodIn_r _ [20, 21, 22, 23, 19, 24, 25, 26, 124, 125, 126, 127, 128, 129, 130] (by decide +kernel) (by decide +kernel)
set_option maxRecDepth 20000 in
theorem gX4_ask_X2_contains : GoodIn wsX4_ask (wsV RX4 64 RX2 yX2_contains wsX2_contains) := goodIn_app (goodIn_of _ (by decide +kernel)) ggX4_ask_X2_contains
set_option maxRecDepth 20000 in
theorem ggX4_ask_X0_levelOf : GoodIn wsX4_ask wsX0_levelOf := goodIn_r _ [31, 32, 33, 34, 30, 35, 131] (by decide +kernel) (by decide +kernel)
set_option maxRecDepth 20000 in
theorem gX4_ask_X0_levelOf : GoodIn wsX4_ask (wsV RX4 67 RX0 yX0_levelOf wsX0_levelOf) := goodIn_app (goodIn_of _ (by decide +kernel)) ggX4_ask_X0_levelOf
set_option maxRecDepth 20000 in
theorem ggX4_ask_X2_size : GoodIn wsX4_ask wsX2_size := goodIn_r _ [39, 25, 124, 125, 126, 127, 128, 129, 130] (by decide +kernel) (by decide +kernel)
set_option maxRecDepth 20000 in
theorem gX4_ask_X2_size : GoodIn wsX4_ask (wsV RX4 71 RX2 yX2_size wsX2_size) := goodIn_app (goodIn_of _ (by decide +kernel)) ggX4_ask_X2_size
set_option maxRecDepth 20000 in
theorem ggX4_ask_X4_inTheWay : GoodIn wsX4_ask wsX4_inTheWay := goodIn_r _ [43, 2, 1, 44, 45, 46, 30, 47, 32, 48, 5, 49, 50, 51, 52, 53, 33, 34, 35, 54, 55, 56, 19, 57, 25, 26, 58, 59, 60, 61, 62, 63, 64, 65, 120, 121, 122, 123, 131, 124, 125, 126, 127, 128, 129, 130] (by decide +kernel) (by decide +kernel)
set_option maxRecDepth 20000 in
theorem gX4_ask_X4_inTheWay : GoodIn wsX4_ask (wsV RX4 75 RX4 yX4_inTheWay wsX4_inTheWay) := goodIn_app (goodIn_of _ (by decide +kernel)) ggX4_ask_X4_inTheWay
set_option maxRecDepth 20000 in
theorem ggX4_ask_X0_take : GoodIn wsX4_ask wsX0_take := goodIn_r _ [69, 32, 33, 34, 30, 35, 131] (by decide +kernel) (by decide +kernel)
set_option maxRecDepth 20000 in
theorem gX4_ask_X0_take : GoodIn wsX4_ask (wsV RX4 79 RX0 yX0_take wsX0_take) := goodIn_app (goodIn_of _ (by decide +kernel)) ggX4_ask_X0_take
set_option maxRecDepth 20000 in
theorem ggX4_ask_X4_closesRing : GoodIn wsX4_ask wsX4_closesRing := goodIn_r _ [73, 51, 52, 5, 53, 74, 75, 76, 77, 1, 78, 79, 22, 23, 19, 24, 25, 26, 80, 81, 82, 83, 63, 84, 85, 86, 87, 88, 89, 90, 91, 92, 93, 94, 95, 96, 97, 98, 99, 100, 101, 102, 65, 103, 104, 105, 106, 64, 107, 108, 109, 110, 58, 40, 41, 42, 43, 2, 44, 45, 46, 30, 47, 32, 48, 49, 50, 33, 34, 35, 54, 55, 56, 57, 59, 60, 61, 62, 120, 121, 122, 123, 124, 125, 126, 127, 128, 129, 130, 132, 133, 131] (by decide +kernel) (by decide +kernel)
set_option maxRecDepth 20000 in
theorem gX4_ask_X4_closesRing : GoodIn wsX4_ask (wsV RX4 83 RX4 yX4_closesRing wsX4_closesRing) := goodIn_app (goodIn_of _ (by decide +kernel)) ggX4_ask_X4_closesRing
set_option maxRecDepth 20000 in
theorem ggX4_ask_X2_addForTable : GoodIn wsX4_ask wsX2_addForTable := goodIn_r _ [114, 63, 64, 58, 115, 65, 116, 117, 118, 19, 119, 25, 26, 124, 125, 126, 127, 128, 129, 130] (by decide +kernel) (by decide +kernel)
set_option maxRecDepth 20000 in
theorem gX4_ask_X2_addForTable : GoodIn wsX4_ask (wsV RX4 87 RX2 yX2_addForTable wsX2_addForTable) := goodIn_app (goodIn_of _ (by decide +kernel)) ggX4_ask_X2_addForTable
theorem dX4_ask_0 : decode cX4_ask 0 = .ok (.iload_n 1, 1) := by decide +kernel
theorem dX4_ask_1 : decode cX4_ask 1 = .ok (.invokestatic 37, 3) := by decide +kernel
end
section
theorem dX4_ask_4 : decode cX4_ask 4 = .ok (.ifCond .eq 25, 3) := by decide +kernel
theorem dX4_ask_7 : decode cX4_ask 7 = .ok (.iload_n 2, 1) := by decide +kernel
theorem dX4_ask_8 : decode cX4_ask 8 = .ok (.invokestatic 55, 3) := by decide +kernel
theorem dX4_ask_11 : decode cX4_ask 11 = .ok (.ifCond .eq 18, 3) := by decide +kernel
theorem dX4_ask_14 : decode cX4_ask 14 = .ok (.iload_n 3, 1) := by decide +kernel
theorem dX4_ask_15 : decode cX4_ask 15 = .ok (.invokestatic 58, 3) := by decide +kernel
theorem dX4_ask_18 : decode cX4_ask 18 = .ok (.ifCond .eq 11, 3) := by decide +kernel
theorem dX4_ask_21 : decode cX4_ask 21 = .ok (.iload 4, 2) := by decide +kernel
theorem dX4_ask_23 : decode cX4_ask 23 = .ok (.invokestatic 61, 3) := by decide +kernel
theorem dX4_ask_26 : decode cX4_ask 26 = .ok (.ifCond .ne 5, 3) := by decide +kernel
theorem dX4_ask_29 : decode cX4_ask 29 = .ok (.iconst (-1), 1) := by decide +kernel
theorem dX4_ask_30 : decode cX4_ask 30 = .ok (.ireturn, 1) := by decide +kernel
theorem dX4_ask_31 : decode cX4_ask 31 = .ok (.aload_n 0, 1) := by decide +kernel
theorem dX4_ask_32 : decode cX4_ask 32 = .ok (.getfield 33, 3) := by decide +kernel
theorem dX4_ask_35 : decode cX4_ask 35 = .ok (.iload_n 1, 1) := by decide +kernel
theorem dX4_ask_36 : decode cX4_ask 36 = .ok (.invokevirtual 64, 3) := by decide +kernel
theorem dX4_ask_39 : decode cX4_ask 39 = .ok (.ifCond .eq 5, 3) := by decide +kernel
theorem dX4_ask_42 : decode cX4_ask 42 = .ok (.iconst (-1), 1) := by decide +kernel
theorem dX4_ask_43 : decode cX4_ask 43 = .ok (.ireturn, 1) := by decide +kernel
theorem dX4_ask_44 : decode cX4_ask 44 = .ok (.aload_n 0, 1) := by decide +kernel
theorem dX4_ask_45 : decode cX4_ask 45 = .ok (.getfield 19, 3) := by decide +kernel
theorem dX4_ask_48 : decode cX4_ask 48 = .ok (.iload_n 1, 1) := by decide +kernel
theorem dX4_ask_49 : decode cX4_ask 49 = .ok (.iload_n 3, 1) := by decide +kernel
theorem dX4_ask_50 : decode cX4_ask 50 = .ok (.iload 4, 2) := by decide +kernel
theorem dX4_ask_52 : decode cX4_ask 52 = .ok (.invokevirtual 67, 3) := by decide +kernel
theorem dX4_ask_55 : decode cX4_ask 55 = .ok (.iconst (-1), 1) := by decide +kernel
theorem dX4_ask_56 : decode cX4_ask 56 = .ok (.if_icmp .eq 5, 3) := by decide +kernel
theorem dX4_ask_59 : decode cX4_ask 59 = .ok (.iconst 0, 1) := by decide +kernel
theorem dX4_ask_60 : decode cX4_ask 60 = .ok (.ireturn, 1) := by decide +kernel
theorem dX4_ask_61 : decode cX4_ask 61 = .ok (.aload_n 0, 1) := by decide +kernel
theorem dX4_ask_62 : decode cX4_ask 62 = .ok (.iload_n 1, 1) := by decide +kernel
theorem dX4_ask_63 : decode cX4_ask 63 = .ok (.iload_n 3, 1) := by decide +kernel
theorem dX4_ask_64 : decode cX4_ask 64 = .ok (.iload 4, 2) := by decide +kernel
theorem dX4_ask_66 : decode cX4_ask 66 = .ok (.aload_n 0, 1) := by decide +kernel
theorem dX4_ask_67 : decode cX4_ask 67 = .ok (.getfield 33, 3) := by decide +kernel
theorem dX4_ask_70 : decode cX4_ask 70 = .ok (.invokevirtual 71, 3) := by decide +kernel
theorem dX4_ask_73 : decode cX4_ask 73 = .ok (.invokevirtual 75, 3) := by decide +kernel
theorem dX4_ask_76 : decode cX4_ask 76 = .ok (.istore 5, 2) := by decide +kernel
theorem dX4_ask_78 : decode cX4_ask 78 = .ok (.iload 5, 2) := by decide +kernel
theorem dX4_ask_80 : decode cX4_ask 80 = .ok (.ifCond .ne 17, 3) := by decide +kernel
theorem dX4_ask_83 : decode cX4_ask 83 = .ok (.aload_n 0, 1) := by decide +kernel
theorem dX4_ask_84 : decode cX4_ask 84 = .ok (.getfield 19, 3) := by decide +kernel
theorem dX4_ask_87 : decode cX4_ask 87 = .ok (.iload_n 1, 1) := by decide +kernel
theorem dX4_ask_88 : decode cX4_ask 88 = .ok (.iload_n 2, 1) := by decide +kernel
theorem dX4_ask_89 : decode cX4_ask 89 = .ok (.iload_n 3, 1) := by decide +kernel
theorem dX4_ask_90 : decode cX4_ask 90 = .ok (.iload 4, 2) := by decide +kernel
theorem dX4_ask_92 : decode cX4_ask 92 = .ok (.invokevirtual 79, 3) := by decide +kernel
theorem dX4_ask_95 : decode cX4_ask 95 = .ok (.iconst 0, 1) := by decide +kernel
theorem dX4_ask_96 : decode cX4_ask 96 = .ok (.ireturn, 1) := by decide +kernel
theorem dX4_ask_97 : decode cX4_ask 97 = .ok (.aload_n 0, 1) := by decide +kernel
theorem dX4_ask_98 : decode cX4_ask 98 = .ok (.iload_n 1, 1) := by decide +kernel
theorem dX4_ask_99 : decode cX4_ask 99 = .ok (.iload 5, 2) := by decide +kernel
theorem dX4_ask_101 : decode cX4_ask 101 = .ok (.invokevirtual 83, 3) := by decide +kernel
theorem dX4_ask_104 : decode cX4_ask 104 = .ok (.ifCond .eq 5, 3) := by decide +kernel
theorem dX4_ask_107 : decode cX4_ask 107 = .ok (.iconst 2, 1) := by decide +kernel
theorem dX4_ask_108 : decode cX4_ask 108 = .ok (.ireturn, 1) := by decide +kernel
theorem dX4_ask_109 : decode cX4_ask 109 = .ok (.aload_n 0, 1) := by decide +kernel
theorem dX4_ask_110 : decode cX4_ask 110 = .ok (.getfield 33, 3) := by decide +kernel
theorem dX4_ask_113 : decode cX4_ask 113 = .ok (.iload_n 1, 1) := by decide +kernel
theorem dX4_ask_114 : decode cX4_ask 114 = .ok (.iload_n 2, 1) := by decide +kernel
theorem dX4_ask_115 : decode cX4_ask 115 = .ok (.iload_n 3, 1) := by decide +kernel
theorem dX4_ask_116 : decode cX4_ask 116 = .ok (.iload 4, 2) := by decide +kernel
theorem dX4_ask_118 : decode cX4_ask 118 = .ok (.invokevirtual 87, 3) := by decide +kernel
theorem dX4_ask_121 : decode cX4_ask 121 = .ok (.iconst 1, 1) := by decide +kernel
theorem dX4_ask_122 : decode cX4_ask 122 = .ok (.ireturn, 1) := by decide +kernel
set_option maxRecDepth 20000 in
theorem ggX4_lock_X1_runnerOf : GoodIn wsX4_lock wsX1_runnerOf := goodIn_r _ [8, 9, 10, 11, 12, 7, 13, 14, 56, 57] (by decide +kernel) (by decide +kernel)
set_option maxRecDepth 20000 in
theorem gX4_lock_X1_runnerOf : GoodIn wsX4_lock (wsV RX4 45 RX1 yX1_runnerOf wsX1_runnerOf) := goodIn_app (goodIn_of _ (by decide +kernel)) ggX4_lock_X1_runnerOf
set_option maxRecDepth 20000 in
theorem ggX4_lock_X4_isRow : GoodIn wsX4_lock wsX4_isRow := goodIn_r _ [18] (by decide +kernel) (by decide +kernel)
set_option maxRecDepth 20000 in
theorem gX4_lock_X4_isRow : GoodIn wsX4_lock (va_wsS RX4 90 yX4_isRow wsX4_isRow) := goodIn_app (goodIn_of _ (by decide +kernel)) ggX4_lock_X4_isRow
set_option maxRecDepth 20000 in
theorem ggX4_lock_X2_contains : GoodIn wsX4_lock wsX2_contains := goodIn_r _ [23, 24, 25, 26, 22, 27, 28, 29, 58, 59, 60, 61, 62, 63, 64] (by decide +kernel) (by decide +kernel)
set_option maxRecDepth 20000 in
theorem gX4_lock_X2_contains : GoodIn wsX4_lock (wsV RX4 64 RX2 yX2_contains wsX2_contains) := goodIn_app (goodIn_of _ (by decide +kernel)) ggX4_lock_X2_contains
set_option maxRecDepth 20000 in
theorem ggX4_lock_X3_suffices : GoodIn wsX4_lock wsX3_suffices := goodIn_r _ [34, 35, 36, 37, 38, 65, 66, 67, 68, 69] (by decide +kernel) (by decide +kernel)
set_option maxRecDepth 20000 in
theorem gX4_lock_X3_suffices : GoodIn wsX4_lock (wsV RX4 93 RX3 yX3_suffices wsX3_suffices) := goodIn_app (goodIn_of _ (by decide +kernel)) ggX4_lock_X3_suffices
set_option maxRecDepth 20000 in
theorem ggX4_lock_X3_leastInConflict : GoodIn wsX4_lock wsX3_leastInConflict := goodIn_r _ [42, 35, 38, 36, 37, 43, 65, 66, 67, 68, 69] (by decide +kernel) (by decide +kernel)
set_option maxRecDepth 20000 in
theorem gX4_lock_X3_leastInConflict : GoodIn wsX4_lock (wsV RX4 97 RX3 yX3_leastInConflict wsX3_leastInConflict) := goodIn_app (goodIn_of _ (by decide +kernel)) ggX4_lock_X3_leastInConflict
set_option maxRecDepth 20000 in
theorem ggX4_lock_X3_note : GoodIn wsX4_lock wsX3_note := goodIn_r _ [47, 35, 43, 36, 38, 37, 48, 49, 50, 33, 51, 65, 66, 67, 68, 69] (by decide +kernel) (by decide +kernel)
set_option maxRecDepth 20000 in
theorem gX4_lock_X3_note : GoodIn wsX4_lock (wsV RX4 100 RX3 yX3_note wsX3_note) := goodIn_app (goodIn_of _ (by decide +kernel)) ggX4_lock_X3_note
theorem dX4_lock_0 : decode cX4_lock 0 = .ok (.aload_n 0, 1) := by decide +kernel
theorem dX4_lock_1 : decode cX4_lock 1 = .ok (.getfield 10, 3) := by decide +kernel
theorem dX4_lock_4 : decode cX4_lock 4 = .ok (.iload_n 1, 1) := by decide +kernel
theorem dX4_lock_5 : decode cX4_lock 5 = .ok (.invokevirtual 45, 3) := by decide +kernel
theorem dX4_lock_8 : decode cX4_lock 8 = .ok (.istore 4, 2) := by decide +kernel
theorem dX4_lock_10 : decode cX4_lock 10 = .ok (.iload 4, 2) := by decide +kernel
theorem dX4_lock_12 : decode cX4_lock 12 = .ok (.iconst (-1), 1) := by decide +kernel
theorem dX4_lock_13 : decode cX4_lock 13 = .ok (.if_icmp .eq 20, 3) := by decide +kernel
theorem dX4_lock_16 : decode cX4_lock 16 = .ok (.iload_n 2, 1) := by decide +kernel
theorem dX4_lock_17 : decode cX4_lock 17 = .ok (.invokestatic 90, 3) := by decide +kernel
theorem dX4_lock_20 : decode cX4_lock 20 = .ok (.ifCond .eq 13, 3) := by decide +kernel
theorem dX4_lock_23 : decode cX4_lock 23 = .ok (.iload_n 3, 1) := by decide +kernel
theorem dX4_lock_24 : decode cX4_lock 24 = .ok (.iconst 1, 1) := by decide +kernel
theorem dX4_lock_25 : decode cX4_lock 25 = .ok (.if_icmp .lt 8, 3) := by decide +kernel
theorem dX4_lock_28 : decode cX4_lock 28 = .ok (.iload_n 3, 1) := by decide +kernel
theorem dX4_lock_29 : decode cX4_lock 29 = .ok (.iconst 2, 1) := by decide +kernel
theorem dX4_lock_30 : decode cX4_lock 30 = .ok (.if_icmp .le 5, 3) := by decide +kernel
theorem dX4_lock_33 : decode cX4_lock 33 = .ok (.iconst (-1), 1) := by decide +kernel
theorem dX4_lock_34 : decode cX4_lock 34 = .ok (.ireturn, 1) := by decide +kernel
theorem dX4_lock_35 : decode cX4_lock 35 = .ok (.aload_n 0, 1) := by decide +kernel
theorem dX4_lock_36 : decode cX4_lock 36 = .ok (.getfield 33, 3) := by decide +kernel
theorem dX4_lock_39 : decode cX4_lock 39 = .ok (.iload 4, 2) := by decide +kernel
theorem dX4_lock_41 : decode cX4_lock 41 = .ok (.invokevirtual 64, 3) := by decide +kernel
theorem dX4_lock_44 : decode cX4_lock 44 = .ok (.ifCond .eq 5, 3) := by decide +kernel
theorem dX4_lock_47 : decode cX4_lock 47 = .ok (.iconst (-1), 1) := by decide +kernel
theorem dX4_lock_48 : decode cX4_lock 48 = .ok (.ireturn, 1) := by decide +kernel
theorem dX4_lock_49 : decode cX4_lock 49 = .ok (.aload_n 0, 1) := by decide +kernel
theorem dX4_lock_50 : decode cX4_lock 50 = .ok (.getfield 26, 3) := by decide +kernel
theorem dX4_lock_53 : decode cX4_lock 53 = .ok (.iload 4, 2) := by decide +kernel
theorem dX4_lock_55 : decode cX4_lock 55 = .ok (.iload_n 2, 1) := by decide +kernel
theorem dX4_lock_56 : decode cX4_lock 56 = .ok (.iload_n 3, 1) := by decide +kernel
theorem dX4_lock_57 : decode cX4_lock 57 = .ok (.invokevirtual 93, 3) := by decide +kernel
theorem dX4_lock_60 : decode cX4_lock 60 = .ok (.ifCond .eq 5, 3) := by decide +kernel
theorem dX4_lock_63 : decode cX4_lock 63 = .ok (.iconst 0, 1) := by decide +kernel
theorem dX4_lock_64 : decode cX4_lock 64 = .ok (.ireturn, 1) := by decide +kernel
theorem dX4_lock_65 : decode cX4_lock 65 = .ok (.aload_n 0, 1) := by decide +kernel
theorem dX4_lock_66 : decode cX4_lock 66 = .ok (.getfield 26, 3) := by decide +kernel
theorem dX4_lock_69 : decode cX4_lock 69 = .ok (.iload 4, 2) := by decide +kernel
theorem dX4_lock_71 : decode cX4_lock 71 = .ok (.iload_n 2, 1) := by decide +kernel
theorem dX4_lock_72 : decode cX4_lock 72 = .ok (.iload_n 3, 1) := by decide +kernel
theorem dX4_lock_73 : decode cX4_lock 73 = .ok (.invokevirtual 97, 3) := by decide +kernel
theorem dX4_lock_76 : decode cX4_lock 76 = .ok (.istore 5, 2) := by decide +kernel
theorem dX4_lock_78 : decode cX4_lock 78 = .ok (.iload 5, 2) := by decide +kernel
theorem dX4_lock_80 : decode cX4_lock 80 = .ok (.iconst (-1), 1) := by decide +kernel
theorem dX4_lock_81 : decode cX4_lock 81 = .ok (.if_icmp .eq 6, 3) := by decide +kernel
theorem dX4_lock_84 : decode cX4_lock 84 = .ok (.iload 5, 2) := by decide +kernel
theorem dX4_lock_86 : decode cX4_lock 86 = .ok (.ireturn, 1) := by decide +kernel
theorem dX4_lock_87 : decode cX4_lock 87 = .ok (.aload_n 0, 1) := by decide +kernel
theorem dX4_lock_88 : decode cX4_lock 88 = .ok (.getfield 26, 3) := by decide +kernel
theorem dX4_lock_91 : decode cX4_lock 91 = .ok (.iload_n 1, 1) := by decide +kernel
theorem dX4_lock_92 : decode cX4_lock 92 = .ok (.iload 4, 2) := by decide +kernel
theorem dX4_lock_94 : decode cX4_lock 94 = .ok (.iload_n 2, 1) := by decide +kernel
theorem dX4_lock_95 : decode cX4_lock 95 = .ok (.iload_n 3, 1) := by decide +kernel
theorem dX4_lock_96 : decode cX4_lock 96 = .ok (.invokevirtual 100, 3) := by decide +kernel
theorem dX4_lock_99 : decode cX4_lock 99 = .ok (.ifCond .eq 7, 3) := by decide +kernel
theorem dX4_lock_102 : decode cX4_lock 102 = .ok (.iconst 0, 1) := by decide +kernel
theorem dX4_lock_103 : decode cX4_lock 103 = .ok (.goto 4, 3) := by decide +kernel
theorem dX4_lock_106 : decode cX4_lock 106 = .ok (.iconst (-1), 1) := by decide +kernel
theorem dX4_lock_107 : decode cX4_lock 107 = .ok (.ireturn, 1) := by decide +kernel
set_option maxRecDepth 20000 in
theorem ggX4_await_X4_isSession : GoodIn wsX4_await wsX4_isSession := goodIn_r _ [6] (by decide +kernel) (by decide +kernel)
set_option maxRecDepth 20000 in
theorem gX4_await_X4_isSession : GoodIn wsX4_await (va_wsS RX4 37 yX4_isSession wsX4_isSession) := goodIn_app (goodIn_of _ (by decide +kernel)) ggX4_await_X4_isSession
set_option maxRecDepth 20000 in
theorem ggX4_await_X1_wasGiven : GoodIn wsX4_await wsX1_wasGiven := goodIn_r _ [11, 12, 103, 104] (by decide +kernel) (by decide +kernel)
set_option maxRecDepth 20000 in
theorem gX4_await_X1_wasGiven : GoodIn wsX4_await (wsV RX4 104 RX1 yX1_wasGiven wsX1_wasGiven) := goodIn_app (goodIn_of _ (by decide +kernel)) ggX4_await_X1_wasGiven
set_option maxRecDepth 20000 in
theorem ggX4_await_X2_contains : GoodIn wsX4_await wsX2_contains := goodIn_r _ [17, 18, 19, 20, 16, 21, 22, 23, 105, 106, 107, 108, 109, 110, 111] (by decide +kernel) (by decide +kernel)
set_option maxRecDepth 20000 in
theorem gX4_await_X2_contains : GoodIn wsX4_await (wsV RX4 64 RX2 yX2_contains wsX2_contains) := goodIn_app (goodIn_of _ (by decide +kernel)) ggX4_await_X2_contains
set_option maxRecDepth 20000 in
theorem ggX4_await_X1_runnerOf : GoodIn wsX4_await wsX1_runnerOf := goodIn_r _ [27, 28, 29, 8, 9, 10, 11, 12, 103, 104] (by decide +kernel) (by decide +kernel)
set_option maxRecDepth 20000 in
theorem gX4_await_X1_runnerOf : GoodIn wsX4_await (wsV RX4 45 RX1 yX1_runnerOf wsX1_runnerOf) := goodIn_app (goodIn_of _ (by decide +kernel)) ggX4_await_X1_runnerOf
set_option maxRecDepth 20000 in
theorem ggX4_await_X4_closesRing : GoodIn wsX4_await wsX4_closesRing := goodIn_r _ [33, 34, 35, 5, 36, 37, 38, 39, 40, 2, 1, 41, 19, 20, 16, 21, 22, 23, 42, 43, 44, 45, 46, 47, 48, 49, 50, 24, 25, 26, 10, 27, 28, 29, 8, 9, 11, 12, 51, 52, 53, 54, 55, 56, 57, 58, 59, 60, 61, 62, 63, 64, 65, 66, 67, 68, 69, 70, 71, 72, 73, 74, 75, 76, 77, 78, 79, 80, 81, 82, 83, 84, 85, 86, 87, 88, 89, 90, 99, 100, 101, 102, 105, 106, 107, 108, 109, 110, 111, 103, 104, 112] (by decide +kernel) (by decide +kernel)
set_option maxRecDepth 20000 in
theorem gX4_await_X4_closesRing : GoodIn wsX4_await (wsV RX4 83 RX4 yX4_closesRing wsX4_closesRing) := goodIn_app (goodIn_of _ (by decide +kernel)) ggX4_await_X4_closesRing
set_option maxRecDepth 20000 in
theorem ggX4_await_X2_addForNumber : GoodIn wsX4_await wsX2_addForNumber := goodIn_r _ [94, 46, 95, 96, 97, 16, 98, 22, 23, 105, 106, 107, 108, 109, 110, 111] (by decide +kernel) (by decide +kernel)
set_option maxRecDepth 20000 in
theorem gX4_await_X2_addForNumber : GoodIn wsX4_await (wsV RX4 107 RX2 yX2_addForNumber wsX2_addForNumber) := goodIn_app (goodIn_of _ (by decide +kernel)) ggX4_await_X2_addForNumber
theorem dX4_await_0 : decode cX4_await 0 = .ok (.iload_n 1, 1) := by decide +kernel
theorem dX4_await_1 : decode cX4_await 1 = .ok (.invokestatic 37, 3) := by decide +kernel
theorem dX4_await_4 : decode cX4_await 4 = .ok (.ifCond .eq 25, 3) := by decide +kernel
theorem dX4_await_7 : decode cX4_await 7 = .ok (.aload_n 0, 1) := by decide +kernel
theorem dX4_await_8 : decode cX4_await 8 = .ok (.getfield 10, 3) := by decide +kernel
theorem dX4_await_11 : decode cX4_await 11 = .ok (.iload_n 2, 1) := by decide +kernel
theorem dX4_await_12 : decode cX4_await 12 = .ok (.invokevirtual 104, 3) := by decide +kernel
theorem dX4_await_15 : decode cX4_await 15 = .ok (.ifCond .eq 14, 3) := by decide +kernel
theorem dX4_await_18 : decode cX4_await 18 = .ok (.aload_n 0, 1) := by decide +kernel
theorem dX4_await_19 : decode cX4_await 19 = .ok (.getfield 33, 3) := by decide +kernel
theorem dX4_await_22 : decode cX4_await 22 = .ok (.iload_n 1, 1) := by decide +kernel
theorem dX4_await_23 : decode cX4_await 23 = .ok (.invokevirtual 64, 3) := by decide +kernel
theorem dX4_await_26 : decode cX4_await 26 = .ok (.ifCond .eq 5, 3) := by decide +kernel
theorem dX4_await_29 : decode cX4_await 29 = .ok (.iconst (-1), 1) := by decide +kernel
theorem dX4_await_30 : decode cX4_await 30 = .ok (.ireturn, 1) := by decide +kernel
theorem dX4_await_31 : decode cX4_await 31 = .ok (.aload_n 0, 1) := by decide +kernel
theorem dX4_await_32 : decode cX4_await 32 = .ok (.getfield 10, 3) := by decide +kernel
theorem dX4_await_35 : decode cX4_await 35 = .ok (.iload_n 2, 1) := by decide +kernel
theorem dX4_await_36 : decode cX4_await 36 = .ok (.invokevirtual 45, 3) := by decide +kernel
theorem dX4_await_39 : decode cX4_await 39 = .ok (.istore_n 3, 1) := by decide +kernel
theorem dX4_await_40 : decode cX4_await 40 = .ok (.iload_n 3, 1) := by decide +kernel
theorem dX4_await_41 : decode cX4_await 41 = .ok (.iconst (-1), 1) := by decide +kernel
theorem dX4_await_42 : decode cX4_await 42 = .ok (.if_icmp .ne 5, 3) := by decide +kernel
theorem dX4_await_45 : decode cX4_await 45 = .ok (.iconst 0, 1) := by decide +kernel
theorem dX4_await_46 : decode cX4_await 46 = .ok (.ireturn, 1) := by decide +kernel
theorem dX4_await_47 : decode cX4_await 47 = .ok (.aload_n 0, 1) := by decide +kernel
theorem dX4_await_48 : decode cX4_await 48 = .ok (.iload_n 1, 1) := by decide +kernel
theorem dX4_await_49 : decode cX4_await 49 = .ok (.iconst 1, 1) := by decide +kernel
theorem dX4_await_50 : decode cX4_await 50 = .ok (.iload_n 3, 1) := by decide +kernel
theorem dX4_await_51 : decode cX4_await 51 = .ok (.ishl, 1) := by decide +kernel
theorem dX4_await_52 : decode cX4_await 52 = .ok (.invokevirtual 83, 3) := by decide +kernel
theorem dX4_await_55 : decode cX4_await 55 = .ok (.ifCond .eq 5, 3) := by decide +kernel
theorem dX4_await_58 : decode cX4_await 58 = .ok (.iconst 2, 1) := by decide +kernel
theorem dX4_await_59 : decode cX4_await 59 = .ok (.ireturn, 1) := by decide +kernel
theorem dX4_await_60 : decode cX4_await 60 = .ok (.aload_n 0, 1) := by decide +kernel
theorem dX4_await_61 : decode cX4_await 61 = .ok (.getfield 33, 3) := by decide +kernel
theorem dX4_await_64 : decode cX4_await 64 = .ok (.iload_n 1, 1) := by decide +kernel
theorem dX4_await_65 : decode cX4_await 65 = .ok (.iload_n 2, 1) := by decide +kernel
theorem dX4_await_66 : decode cX4_await 66 = .ok (.invokevirtual 107, 3) := by decide +kernel
theorem dX4_await_69 : decode cX4_await 69 = .ok (.iconst 1, 1) := by decide +kernel
theorem dX4_await_70 : decode cX4_await 70 = .ok (.ireturn, 1) := by decide +kernel
set_option maxRecDepth 20000 in
theorem ggX4_next_X2_size : GoodIn wsX4_next wsX2_size := goodIn_r _ [6, 7, 107, 108, 109, 110, 111, 112, 113] (by decide +kernel) (by decide +kernel)
set_option maxRecDepth 20000 in
theorem gX4_next_X2_size : GoodIn wsX4_next (wsV RX4 71 RX2 yX2_size wsX2_size) := goodIn_app (goodIn_of _ (by decide +kernel)) ggX4_next_X2_size
set_option maxRecDepth 20000 in
theorem ggX4_next_X2_sessionAt : GoodIn wsX4_next wsX2_sessionAt := goodIn_r _ [11, 7, 12, 107, 108, 109, 110, 111, 112, 113] (by decide +kernel) (by decide +kernel)
set_option maxRecDepth 20000 in
theorem gX4_next_X2_sessionAt : GoodIn wsX4_next (wsV RX4 111 RX2 yX2_sessionAt wsX2_sessionAt) := goodIn_app (goodIn_of _ (by decide +kernel)) ggX4_next_X2_sessionAt
set_option maxRecDepth 20000 in
theorem ggX4_next_X4_waitsOn : GoodIn wsX4_next wsX4_waitsOn := goodIn_r _ [17, 1, 18, 19, 20, 21, 5, 22, 7, 12, 23, 24, 25, 26, 27, 28, 29, 30, 31, 32, 33, 34, 35, 36, 37, 38, 39, 40, 41, 42, 43, 44, 45, 46, 47, 48, 49, 50, 51, 52, 53, 54, 55, 56, 57, 58, 59, 60, 16, 61, 62, 63, 64, 65, 66, 67, 68, 69, 70, 71, 72, 73, 74, 75, 76, 77, 78, 79, 80, 81, 82, 83, 84, 85, 103, 104, 105, 106, 107, 108, 109, 110, 111, 112, 113, 114, 115, 116] (by decide +kernel) (by decide +kernel)
set_option maxRecDepth 20000 in
theorem gX4_next_X4_waitsOn : GoodIn wsX4_next (wsV RX4 114 RX4 yX4_waitsOn wsX4_waitsOn) := goodIn_app (goodIn_of _ (by decide +kernel)) ggX4_next_X4_waitsOn
set_option maxRecDepth 20000 in
theorem ggX4_next_X4_wake : GoodIn wsX4_next wsX4_wake := goodIn_r _ [89, 1, 62, 90, 91, 92, 5, 93, 7, 12, 23, 24, 25, 26, 27, 43, 44, 45, 46, 47, 94, 95, 96, 97, 98, 48, 49, 50, 51, 52, 53, 54, 55, 56, 57, 99, 100, 101, 66, 102, 68, 75, 76, 77, 103, 104, 105, 106, 107, 108, 109, 110, 111, 112, 113, 116] (by decide +kernel) (by decide +kernel)
set_option maxRecDepth 20000 in
theorem gX4_next_X4_wake : GoodIn wsX4_next (wsV RX4 117 RX4 yX4_wake wsX4_wake) := goodIn_app (goodIn_of _ (by decide +kernel)) ggX4_next_X4_wake
theorem dX4_next_0 : decode cX4_next 0 = .ok (.iconst 0, 1) := by decide +kernel
theorem dX4_next_1 : decode cX4_next 1 = .ok (.istore_n 1, 1) := by decide +kernel
theorem dX4_next_2 : decode cX4_next 2 = .ok (.iload_n 1, 1) := by decide +kernel
theorem dX4_next_3 : decode cX4_next 3 = .ok (.aload_n 0, 1) := by decide +kernel
theorem dX4_next_4 : decode cX4_next 4 = .ok (.getfield 33, 3) := by decide +kernel
theorem dX4_next_7 : decode cX4_next 7 = .ok (.invokevirtual 71, 3) := by decide +kernel
theorem dX4_next_10 : decode cX4_next 10 = .ok (.if_icmp .ge 32, 3) := by decide +kernel
theorem dX4_next_13 : decode cX4_next 13 = .ok (.aload_n 0, 1) := by decide +kernel
theorem dX4_next_14 : decode cX4_next 14 = .ok (.getfield 33, 3) := by decide +kernel
theorem dX4_next_17 : decode cX4_next 17 = .ok (.iload_n 1, 1) := by decide +kernel
theorem dX4_next_18 : decode cX4_next 18 = .ok (.invokevirtual 111, 3) := by decide +kernel
theorem dX4_next_21 : decode cX4_next 21 = .ok (.istore_n 2, 1) := by decide +kernel
theorem dX4_next_22 : decode cX4_next 22 = .ok (.aload_n 0, 1) := by decide +kernel
theorem dX4_next_23 : decode cX4_next 23 = .ok (.iload_n 2, 1) := by decide +kernel
theorem dX4_next_24 : decode cX4_next 24 = .ok (.invokevirtual 114, 3) := by decide +kernel
theorem dX4_next_27 : decode cX4_next 27 = .ok (.ifCond .ne 9, 3) := by decide +kernel
theorem dX4_next_30 : decode cX4_next 30 = .ok (.aload_n 0, 1) := by decide +kernel
theorem dX4_next_31 : decode cX4_next 31 = .ok (.iload_n 2, 1) := by decide +kernel
theorem dX4_next_32 : decode cX4_next 32 = .ok (.invokevirtual 117, 3) := by decide +kernel
theorem dX4_next_35 : decode cX4_next 35 = .ok (.ireturn, 1) := by decide +kernel
theorem dX4_next_36 : decode cX4_next 36 = .ok (.iinc 1 1, 3) := by decide +kernel
theorem dX4_next_39 : decode cX4_next 39 = .ok (.goto (-37), 3) := by decide +kernel
theorem dX4_next_42 : decode cX4_next 42 = .ok (.iconst (-1), 1) := by decide +kernel
theorem dX4_next_43 : decode cX4_next 43 = .ok (.ireturn, 1) := by decide +kernel
set_option maxRecDepth 20000 in
theorem ggX4_cancel_X2_contains : GoodIn wsX4_cancel wsX2_contains := goodIn_r _ [6, 7, 8, 9, 5, 10, 11, 12, 21, 22, 23, 24, 25, 26, 27] (by decide +kernel) (by decide +kernel)
set_option maxRecDepth 20000 in
theorem gX4_cancel_X2_contains : GoodIn wsX4_cancel (wsV RX4 64 RX2 yX2_contains wsX2_contains) := goodIn_app (goodIn_of _ (by decide +kernel)) ggX4_cancel_X2_contains
set_option maxRecDepth 20000 in
theorem ggX4_cancel_X2_remove : GoodIn wsX4_cancel wsX2_remove := goodIn_r _ [16, 11, 12, 21, 22, 23, 24, 25, 26, 27] (by decide +kernel) (by decide +kernel)
set_option maxRecDepth 20000 in
theorem gX4_cancel_X2_remove : GoodIn wsX4_cancel (wsV RX4 120 RX2 yX2_remove wsX2_remove) := goodIn_app (goodIn_of _ (by decide +kernel)) ggX4_cancel_X2_remove
theorem dX4_cancel_0 : decode cX4_cancel 0 = .ok (.aload_n 0, 1) := by decide +kernel
theorem dX4_cancel_1 : decode cX4_cancel 1 = .ok (.getfield 33, 3) := by decide +kernel
theorem dX4_cancel_4 : decode cX4_cancel 4 = .ok (.iload_n 1, 1) := by decide +kernel
theorem dX4_cancel_5 : decode cX4_cancel 5 = .ok (.invokevirtual 64, 3) := by decide +kernel
theorem dX4_cancel_8 : decode cX4_cancel 8 = .ok (.ifCond .ne 5, 3) := by decide +kernel
theorem dX4_cancel_11 : decode cX4_cancel 11 = .ok (.iconst 0, 1) := by decide +kernel
theorem dX4_cancel_12 : decode cX4_cancel 12 = .ok (.ireturn, 1) := by decide +kernel
theorem dX4_cancel_13 : decode cX4_cancel 13 = .ok (.aload_n 0, 1) := by decide +kernel
theorem dX4_cancel_14 : decode cX4_cancel 14 = .ok (.getfield 33, 3) := by decide +kernel
theorem dX4_cancel_17 : decode cX4_cancel 17 = .ok (.iload_n 1, 1) := by decide +kernel
theorem dX4_cancel_18 : decode cX4_cancel 18 = .ok (.invokevirtual 120, 3) := by decide +kernel
theorem dX4_cancel_21 : decode cX4_cancel 21 = .ok (.iconst 1, 1) := by decide +kernel
theorem dX4_cancel_22 : decode cX4_cancel 22 = .ok (.ireturn, 1) := by decide +kernel
set_option maxRecDepth 20000 in
theorem ggX4_end_X4_isSession : GoodIn wsX4_end wsX4_isSession := goodIn_r _ [5] (by decide +kernel) (by decide +kernel)
set_option maxRecDepth 20000 in
theorem gX4_end_X4_isSession : GoodIn wsX4_end (va_wsS RX4 37 yX4_isSession wsX4_isSession) := goodIn_app (goodIn_of _ (by decide +kernel)) ggX4_end_X4_isSession
set_option maxRecDepth 20000 in
theorem ggX4_end_X4_isLevel : GoodIn wsX4_end wsX4_isLevel := goodIn_r _ [8] (by decide +kernel) (by decide +kernel)
set_option maxRecDepth 20000 in
theorem gX4_end_X4_isLevel : GoodIn wsX4_end (va_wsS RX4 55 yX4_isLevel wsX4_isLevel) := goodIn_app (goodIn_of _ (by decide +kernel)) ggX4_end_X4_isLevel
set_option maxRecDepth 20000 in
theorem ggX4_end_X0_giveUp : GoodIn wsX4_end wsX0_giveUp := goodIn_r _ [13, 14, 15, 16, 12, 17, 18, 19, 20, 21, 26] (by decide +kernel) (by decide +kernel)
set_option maxRecDepth 20000 in
theorem gX4_end_X0_giveUp : GoodIn wsX4_end (wsV RX4 123 RX0 yX0_giveUp wsX0_giveUp) := goodIn_app (goodIn_of _ (by decide +kernel)) ggX4_end_X0_giveUp
theorem dX4_end_0 : decode cX4_end 0 = .ok (.iload_n 1, 1) := by decide +kernel
theorem dX4_end_1 : decode cX4_end 1 = .ok (.invokestatic 37, 3) := by decide +kernel
theorem dX4_end_4 : decode cX4_end 4 = .ok (.ifCond .eq 10, 3) := by decide +kernel
theorem dX4_end_7 : decode cX4_end 7 = .ok (.iload_n 2, 1) := by decide +kernel
theorem dX4_end_8 : decode cX4_end 8 = .ok (.invokestatic 55, 3) := by decide +kernel
theorem dX4_end_11 : decode cX4_end 11 = .ok (.ifCond .ne 5, 3) := by decide +kernel
theorem dX4_end_14 : decode cX4_end 14 = .ok (.iconst 0, 1) := by decide +kernel
theorem dX4_end_15 : decode cX4_end 15 = .ok (.ireturn, 1) := by decide +kernel
theorem dX4_end_16 : decode cX4_end 16 = .ok (.aload_n 0, 1) := by decide +kernel
theorem dX4_end_17 : decode cX4_end 17 = .ok (.getfield 19, 3) := by decide +kernel
theorem dX4_end_20 : decode cX4_end 20 = .ok (.iload_n 1, 1) := by decide +kernel
theorem dX4_end_21 : decode cX4_end 21 = .ok (.iload_n 2, 1) := by decide +kernel
theorem dX4_end_22 : decode cX4_end 22 = .ok (.invokevirtual 123, 3) := by decide +kernel
theorem dX4_end_25 : decode cX4_end 25 = .ok (.iconst 1, 1) := by decide +kernel
theorem dX4_end_26 : decode cX4_end 26 = .ok (.ireturn, 1) := by decide +kernel
set_option maxRecDepth 20000 in
theorem ggX4_release_X4_isSession : GoodIn wsX4_release wsX4_isSession := goodIn_r _ [6] (by decide +kernel) (by decide +kernel)
set_option maxRecDepth 20000 in
theorem gX4_release_X4_isSession : GoodIn wsX4_release (va_wsS RX4 37 yX4_isSession wsX4_isSession) := goodIn_app (goodIn_of _ (by decide +kernel)) ggX4_release_X4_isSession
set_option maxRecDepth 20000 in
theorem ggX4_release_X4_isLevel : GoodIn wsX4_release wsX4_isLevel := goodIn_r _ [9] (by decide +kernel) (by decide +kernel)
set_option maxRecDepth 20000 in
theorem gX4_release_X4_isLevel : GoodIn wsX4_release (va_wsS RX4 55 yX4_isLevel wsX4_isLevel) := goodIn_app (goodIn_of _ (by decide +kernel)) ggX4_release_X4_isLevel
set_option maxRecDepth 20000 in
theorem ggX4_release_X0_lower : GoodIn wsX4_release wsX0_lower := goodIn_r _ [14, 15, 16, 17, 13, 18, 19, 20, 21, 22, 33] (by decide +kernel) (by decide +kernel)
set_option maxRecDepth 20000 in
theorem gX4_release_X0_lower : GoodIn wsX4_release (wsV RX4 126 RX0 yX0_lower wsX0_lower) := goodIn_app (goodIn_of _ (by decide +kernel)) ggX4_release_X0_lower
set_option maxRecDepth 20000 in
theorem ggX4_release_X2_lower : GoodIn wsX4_release wsX2_lower := goodIn_r _ [27, 28, 34, 35, 36, 37, 38, 39, 40] (by decide +kernel) (by decide +kernel)
set_option maxRecDepth 20000 in
theorem gX4_release_X2_lower : GoodIn wsX4_release (wsV RX4 129 RX2 yX2_lower wsX2_lower) := goodIn_app (goodIn_of _ (by decide +kernel)) ggX4_release_X2_lower
theorem dX4_release_0 : decode cX4_release 0 = .ok (.iload_n 1, 1) := by decide +kernel
theorem dX4_release_1 : decode cX4_release 1 = .ok (.invokestatic 37, 3) := by decide +kernel
theorem dX4_release_4 : decode cX4_release 4 = .ok (.ifCond .eq 14, 3) := by decide +kernel
theorem dX4_release_7 : decode cX4_release 7 = .ok (.iload_n 2, 1) := by decide +kernel
theorem dX4_release_8 : decode cX4_release 8 = .ok (.invokestatic 55, 3) := by decide +kernel
theorem dX4_release_11 : decode cX4_release 11 = .ok (.ifCond .eq 7, 3) := by decide +kernel
theorem dX4_release_14 : decode cX4_release 14 = .ok (.iload_n 2, 1) := by decide +kernel
theorem dX4_release_15 : decode cX4_release 15 = .ok (.ifCond .ne 5, 3) := by decide +kernel
theorem dX4_release_18 : decode cX4_release 18 = .ok (.iconst 0, 1) := by decide +kernel
theorem dX4_release_19 : decode cX4_release 19 = .ok (.ireturn, 1) := by decide +kernel
theorem dX4_release_20 : decode cX4_release 20 = .ok (.aload_n 0, 1) := by decide +kernel
theorem dX4_release_21 : decode cX4_release 21 = .ok (.getfield 19, 3) := by decide +kernel
theorem dX4_release_24 : decode cX4_release 24 = .ok (.iload_n 1, 1) := by decide +kernel
theorem dX4_release_25 : decode cX4_release 25 = .ok (.iload_n 2, 1) := by decide +kernel
theorem dX4_release_26 : decode cX4_release 26 = .ok (.invokevirtual 126, 3) := by decide +kernel
theorem dX4_release_29 : decode cX4_release 29 = .ok (.aload_n 0, 1) := by decide +kernel
theorem dX4_release_30 : decode cX4_release 30 = .ok (.getfield 33, 3) := by decide +kernel
theorem dX4_release_33 : decode cX4_release 33 = .ok (.iload_n 1, 1) := by decide +kernel
theorem dX4_release_34 : decode cX4_release 34 = .ok (.iload_n 2, 1) := by decide +kernel
theorem dX4_release_35 : decode cX4_release 35 = .ok (.invokevirtual 129, 3) := by decide +kernel
theorem dX4_release_38 : decode cX4_release 38 = .ok (.iconst 1, 1) := by decide +kernel
theorem dX4_release_39 : decode cX4_release 39 = .ok (.ireturn, 1) := by decide +kernel
set_option maxRecDepth 20000 in
theorem ggX4_drop_X4_isTable : GoodIn wsX4_drop wsX4_isTable := goodIn_r _ [6] (by decide +kernel) (by decide +kernel)
set_option maxRecDepth 20000 in
theorem gX4_drop_X4_isTable : GoodIn wsX4_drop (va_wsS RX4 58 yX4_isTable wsX4_isTable) := goodIn_app (goodIn_of _ (by decide +kernel)) ggX4_drop_X4_isTable
set_option maxRecDepth 20000 in
theorem ggX4_drop_X0_forgetTable : GoodIn wsX4_drop wsX0_forgetTable := goodIn_r _ [11, 12, 13, 14, 10, 15, 34] (by decide +kernel) (by decide +kernel)
set_option maxRecDepth 20000 in
theorem gX4_drop_X0_forgetTable : GoodIn wsX4_drop (wsV RX4 130 RX0 yX0_forgetTable wsX0_forgetTable) := goodIn_app (goodIn_of _ (by decide +kernel)) ggX4_drop_X0_forgetTable
set_option maxRecDepth 20000 in
theorem ggX4_drop_X2_markDropped : GoodIn wsX4_drop wsX2_markDropped := goodIn_r _ [20, 21, 22, 23, 24, 25, 26, 19, 27, 28, 29, 35, 36, 37, 38, 39, 40, 41] (by decide +kernel) (by decide +kernel)
set_option maxRecDepth 20000 in
theorem gX4_drop_X2_markDropped : GoodIn wsX4_drop (wsV RX4 133 RX2 yX2_markDropped wsX2_markDropped) := goodIn_app (goodIn_of _ (by decide +kernel)) ggX4_drop_X2_markDropped
theorem dX4_drop_0 : decode cX4_drop 0 = .ok (.iload_n 1, 1) := by decide +kernel
theorem dX4_drop_1 : decode cX4_drop 1 = .ok (.invokestatic 58, 3) := by decide +kernel
theorem dX4_drop_4 : decode cX4_drop 4 = .ok (.ifCond .ne 5, 3) := by decide +kernel
theorem dX4_drop_7 : decode cX4_drop 7 = .ok (.iconst 0, 1) := by decide +kernel
theorem dX4_drop_8 : decode cX4_drop 8 = .ok (.ireturn, 1) := by decide +kernel
end
section
theorem dX4_drop_9 : decode cX4_drop 9 = .ok (.aload_n 0, 1) := by decide +kernel
theorem dX4_drop_10 : decode cX4_drop 10 = .ok (.getfield 19, 3) := by decide +kernel
theorem dX4_drop_13 : decode cX4_drop 13 = .ok (.iload_n 1, 1) := by decide +kernel
theorem dX4_drop_14 : decode cX4_drop 14 = .ok (.invokevirtual 130, 3) := by decide +kernel
theorem dX4_drop_17 : decode cX4_drop 17 = .ok (.aload_n 0, 1) := by decide +kernel
theorem dX4_drop_18 : decode cX4_drop 18 = .ok (.getfield 33, 3) := by decide +kernel
theorem dX4_drop_21 : decode cX4_drop 21 = .ok (.iload_n 1, 1) := by decide +kernel
theorem dX4_drop_22 : decode cX4_drop 22 = .ok (.invokevirtual 133, 3) := by decide +kernel
theorem dX4_drop_25 : decode cX4_drop 25 = .ok (.iconst 1, 1) := by decide +kernel
theorem dX4_drop_26 : decode cX4_drop 26 = .ok (.ireturn, 1) := by decide +kernel
set_option maxRecDepth 20000 in
theorem ggX4_clear_X4_isRow : GoodIn wsX4_clear wsX4_isRow := goodIn_r _ [5] (by decide +kernel) (by decide +kernel)
set_option maxRecDepth 20000 in
theorem gX4_clear_X4_isRow : GoodIn wsX4_clear (va_wsS RX4 90 yX4_isRow wsX4_isRow) := goodIn_app (goodIn_of _ (by decide +kernel)) ggX4_clear_X4_isRow
set_option maxRecDepth 20000 in
theorem ggX4_clear_X3_forgetRow : GoodIn wsX4_clear wsX3_forgetRow := goodIn_r _ [10, 11, 12, 13, 14, 9, 15, 16, 17, 18, 19, 20, 21, 22, 23, 28, 29, 30, 31, 32] (by decide +kernel) (by decide +kernel)
set_option maxRecDepth 20000 in
theorem gX4_clear_X3_forgetRow : GoodIn wsX4_clear (wsV RX4 136 RX3 yX3_forgetRow wsX3_forgetRow) := goodIn_app (goodIn_of _ (by decide +kernel)) ggX4_clear_X3_forgetRow
theorem dX4_clear_0 : decode cX4_clear 0 = .ok (.iload_n 1, 1) := by decide +kernel
theorem dX4_clear_1 : decode cX4_clear 1 = .ok (.invokestatic 90, 3) := by decide +kernel
theorem dX4_clear_4 : decode cX4_clear 4 = .ok (.ifCond .ne 5, 3) := by decide +kernel
theorem dX4_clear_7 : decode cX4_clear 7 = .ok (.iconst 0, 1) := by decide +kernel
theorem dX4_clear_8 : decode cX4_clear 8 = .ok (.ireturn, 1) := by decide +kernel
theorem dX4_clear_9 : decode cX4_clear 9 = .ok (.aload_n 0, 1) := by decide +kernel
theorem dX4_clear_10 : decode cX4_clear 10 = .ok (.getfield 26, 3) := by decide +kernel
theorem dX4_clear_13 : decode cX4_clear 13 = .ok (.iload_n 1, 1) := by decide +kernel
theorem dX4_clear_14 : decode cX4_clear 14 = .ok (.invokevirtual 136, 3) := by decide +kernel
theorem dX4_clear_17 : decode cX4_clear 17 = .ok (.iconst 1, 1) := by decide +kernel
theorem dX4_clear_18 : decode cX4_clear 18 = .ok (.ireturn, 1) := by decide +kernel
set_option maxRecDepth 20000 in
theorem ggX4_holds_X4_isSession : GoodIn wsX4_holds wsX4_isSession := goodIn_r _ [5] (by decide +kernel) (by decide +kernel)
set_option maxRecDepth 20000 in
theorem gX4_holds_X4_isSession : GoodIn wsX4_holds (va_wsS RX4 37 yX4_isSession wsX4_isSession) := goodIn_app (goodIn_of _ (by decide +kernel)) ggX4_holds_X4_isSession
set_option maxRecDepth 20000 in
theorem ggX4_holds_X4_isTable : GoodIn wsX4_holds wsX4_isTable := goodIn_r _ [8] (by decide +kernel) (by decide +kernel)
set_option maxRecDepth 20000 in
theorem gX4_holds_X4_isTable : GoodIn wsX4_holds (va_wsS RX4 58 yX4_isTable wsX4_isTable) := goodIn_app (goodIn_of _ (by decide +kernel)) ggX4_holds_X4_isTable
set_option maxRecDepth 20000 in
theorem ggX4_holds_X4_isMode : GoodIn wsX4_holds wsX4_isMode := goodIn_r _ [11] (by decide +kernel) (by decide +kernel)
set_option maxRecDepth 20000 in
theorem gX4_holds_X4_isMode : GoodIn wsX4_holds (va_wsS RX4 61 yX4_isMode wsX4_isMode) := goodIn_app (goodIn_of _ (by decide +kernel)) ggX4_holds_X4_isMode
set_option maxRecDepth 20000 in
theorem ggX4_holds_X0_levelOf : GoodIn wsX4_holds wsX0_levelOf := goodIn_r _ [16, 17, 18, 19, 15, 20, 25] (by decide +kernel) (by decide +kernel)
set_option maxRecDepth 20000 in
theorem gX4_holds_X0_levelOf : GoodIn wsX4_holds (wsV RX4 67 RX0 yX0_levelOf wsX0_levelOf) := goodIn_app (goodIn_of _ (by decide +kernel)) ggX4_holds_X0_levelOf
theorem dX4_holds_0 : decode cX4_holds 0 = .ok (.iload_n 1, 1) := by decide +kernel
theorem dX4_holds_1 : decode cX4_holds 1 = .ok (.invokestatic 37, 3) := by decide +kernel
theorem dX4_holds_4 : decode cX4_holds 4 = .ok (.ifCond .eq 17, 3) := by decide +kernel
theorem dX4_holds_7 : decode cX4_holds 7 = .ok (.iload_n 2, 1) := by decide +kernel
theorem dX4_holds_8 : decode cX4_holds 8 = .ok (.invokestatic 58, 3) := by decide +kernel
theorem dX4_holds_11 : decode cX4_holds 11 = .ok (.ifCond .eq 10, 3) := by decide +kernel
theorem dX4_holds_14 : decode cX4_holds 14 = .ok (.iload_n 3, 1) := by decide +kernel
theorem dX4_holds_15 : decode cX4_holds 15 = .ok (.invokestatic 61, 3) := by decide +kernel
theorem dX4_holds_18 : decode cX4_holds 18 = .ok (.ifCond .ne 5, 3) := by decide +kernel
theorem dX4_holds_21 : decode cX4_holds 21 = .ok (.iconst (-1), 1) := by decide +kernel
theorem dX4_holds_22 : decode cX4_holds 22 = .ok (.ireturn, 1) := by decide +kernel
theorem dX4_holds_23 : decode cX4_holds 23 = .ok (.aload_n 0, 1) := by decide +kernel
theorem dX4_holds_24 : decode cX4_holds 24 = .ok (.getfield 19, 3) := by decide +kernel
theorem dX4_holds_27 : decode cX4_holds 27 = .ok (.iload_n 1, 1) := by decide +kernel
theorem dX4_holds_28 : decode cX4_holds 28 = .ok (.iload_n 2, 1) := by decide +kernel
theorem dX4_holds_29 : decode cX4_holds 29 = .ok (.iload_n 3, 1) := by decide +kernel
theorem dX4_holds_30 : decode cX4_holds 30 = .ok (.invokevirtual 67, 3) := by decide +kernel
theorem dX4_holds_33 : decode cX4_holds 33 = .ok (.ireturn, 1) := by decide +kernel
set_option maxRecDepth 20000 in
theorem ggX4_locker_X3_signedNumberAt : GoodIn wsX4_locker wsX3_signedNumberAt := goodIn_r _ [6, 7, 8, 9, 10, 15, 16, 17, 18, 19] (by decide +kernel) (by decide +kernel)
set_option maxRecDepth 20000 in
theorem gX4_locker_X3_signedNumberAt : GoodIn wsX4_locker (wsV RX4 139 RX3 yX3_signedNumberAt wsX3_signedNumberAt) := goodIn_app (goodIn_of _ (by decide +kernel)) ggX4_locker_X3_signedNumberAt
theorem dX4_locker_0 : decode cX4_locker 0 = .ok (.aload_n 0, 1) := by decide +kernel
theorem dX4_locker_1 : decode cX4_locker 1 = .ok (.getfield 26, 3) := by decide +kernel
theorem dX4_locker_4 : decode cX4_locker 4 = .ok (.iload_n 1, 1) := by decide +kernel
theorem dX4_locker_5 : decode cX4_locker 5 = .ok (.iload_n 2, 1) := by decide +kernel
theorem dX4_locker_6 : decode cX4_locker 6 = .ok (.invokevirtual 139, 3) := by decide +kernel
theorem dX4_locker_9 : decode cX4_locker 9 = .ok (.ireturn, 1) := by decide +kernel
set_option maxRecDepth 20000 in
theorem ggX4_on_X4_waitsOn : GoodIn wsX4_on wsX4_waitsOn := goodIn_r _ [5, 6, 7, 8, 9, 10, 11, 12, 13, 14, 15, 16, 17, 18, 19, 20, 21, 22, 23, 24, 25, 26, 27, 28, 29, 30, 31, 32, 33, 34, 35, 36, 37, 38, 39, 40, 41, 42, 43, 44, 45, 46, 47, 48, 49, 50, 51, 52, 4, 53, 54, 55, 56, 57, 58, 59, 60, 61, 62, 63, 64, 65, 66, 67, 68, 69, 70, 71, 72, 73, 74, 75, 76, 77, 78, 79, 80, 81, 82, 83, 84, 85, 86, 87, 88, 89, 90, 91] (by decide +kernel) (by decide +kernel)
set_option maxRecDepth 20000 in
theorem gX4_on_X4_waitsOn : GoodIn wsX4_on (wsV RX4 114 RX4 yX4_waitsOn wsX4_waitsOn) := goodIn_app (goodIn_of _ (by decide +kernel)) ggX4_on_X4_waitsOn
theorem dX4_on_0 : decode cX4_on 0 = .ok (.aload_n 0, 1) := by decide +kernel
theorem dX4_on_1 : decode cX4_on 1 = .ok (.iload_n 1, 1) := by decide +kernel
theorem dX4_on_2 : decode cX4_on 2 = .ok (.invokevirtual 114, 3) := by decide +kernel
theorem dX4_on_5 : decode cX4_on 5 = .ok (.ireturn, 1) := by decide +kernel
set_option maxRecDepth 20000 in
theorem ggX4_waiting_X2_sessionAt : GoodIn wsX4_waiting wsX2_sessionAt := goodIn_r _ [6, 7, 8, 13, 14, 15, 16, 17, 18, 19] (by decide +kernel) (by decide +kernel)
set_option maxRecDepth 20000 in
theorem gX4_waiting_X2_sessionAt : GoodIn wsX4_waiting (wsV RX4 111 RX2 yX2_sessionAt wsX2_sessionAt) := goodIn_app (goodIn_of _ (by decide +kernel)) ggX4_waiting_X2_sessionAt
theorem dX4_waiting_0 : decode cX4_waiting 0 = .ok (.aload_n 0, 1) := by decide +kernel
theorem dX4_waiting_1 : decode cX4_waiting 1 = .ok (.getfield 33, 3) := by decide +kernel
theorem dX4_waiting_4 : decode cX4_waiting 4 = .ok (.iload_n 1, 1) := by decide +kernel
theorem dX4_waiting_5 : decode cX4_waiting 5 = .ok (.invokevirtual 111, 3) := by decide +kernel
theorem dX4_waiting_8 : decode cX4_waiting 8 = .ok (.ireturn, 1) := by decide +kernel
set_option maxRecDepth 20000 in
theorem ggX4_wish_X4_isSession : GoodIn wsX4_wish wsX4_isSession := goodIn_r _ [5] (by decide +kernel) (by decide +kernel)
set_option maxRecDepth 20000 in
theorem gX4_wish_X4_isSession : GoodIn wsX4_wish (va_wsS RX4 37 yX4_isSession wsX4_isSession) := goodIn_app (goodIn_of _ (by decide +kernel)) ggX4_wish_X4_isSession
set_option maxRecDepth 20000 in
theorem ggX4_wish_X2_contains : GoodIn wsX4_wish wsX2_contains := goodIn_r _ [10, 11, 12, 13, 9, 14, 15, 16, 45, 46, 47, 48, 49, 50, 51] (by decide +kernel) (by decide +kernel)
set_option maxRecDepth 20000 in
theorem gX4_wish_X2_contains : GoodIn wsX4_wish (wsV RX4 64 RX2 yX2_contains wsX2_contains) := goodIn_app (goodIn_of _ (by decide +kernel)) ggX4_wish_X2_contains
set_option maxRecDepth 20000 in
theorem ggX4_wish_X2_isForNumber : GoodIn wsX4_wish wsX2_isForNumber := goodIn_r _ [20, 21, 45, 46, 47, 48, 49, 50, 51] (by decide +kernel) (by decide +kernel)
set_option maxRecDepth 20000 in
theorem gX4_wish_X2_isForNumber : GoodIn wsX4_wish (wsV RX4 143 RX2 yX2_isForNumber wsX2_isForNumber) := goodIn_app (goodIn_of _ (by decide +kernel)) ggX4_wish_X2_isForNumber
set_option maxRecDepth 20000 in
theorem ggX4_wish_X2_numberOf : GoodIn wsX4_wish wsX2_numberOf := goodIn_r _ [25, 21, 45, 46, 47, 48, 49, 50, 51] (by decide +kernel) (by decide +kernel)
set_option maxRecDepth 20000 in
theorem gX4_wish_X2_numberOf : GoodIn wsX4_wish (wsV RX4 146 RX2 yX2_numberOf wsX2_numberOf) := goodIn_app (goodIn_of _ (by decide +kernel)) ggX4_wish_X2_numberOf
set_option maxRecDepth 20000 in
theorem ggX4_wish_X2_tableOf : GoodIn wsX4_wish wsX2_tableOf := goodIn_r _ [29, 30, 45, 46, 47, 48, 49, 50, 51] (by decide +kernel) (by decide +kernel)
set_option maxRecDepth 20000 in
theorem gX4_wish_X2_tableOf : GoodIn wsX4_wish (wsV RX4 149 RX2 yX2_tableOf wsX2_tableOf) := goodIn_app (goodIn_of _ (by decide +kernel)) ggX4_wish_X2_tableOf
set_option maxRecDepth 20000 in
theorem ggX4_wish_X2_modeOf : GoodIn wsX4_wish wsX2_modeOf := goodIn_r _ [34, 35, 45, 46, 47, 48, 49, 50, 51] (by decide +kernel) (by decide +kernel)
set_option maxRecDepth 20000 in
theorem gX4_wish_X2_modeOf : GoodIn wsX4_wish (wsV RX4 152 RX2 yX2_modeOf wsX2_modeOf) := goodIn_app (goodIn_of _ (by decide +kernel)) ggX4_wish_X2_modeOf
set_option maxRecDepth 20000 in
theorem ggX4_wish_X2_isDropped : GoodIn wsX4_wish wsX2_isDropped := goodIn_r _ [39, 40, 45, 46, 47, 48, 49, 50, 51] (by decide +kernel) (by decide +kernel)
set_option maxRecDepth 20000 in
theorem gX4_wish_X2_isDropped : GoodIn wsX4_wish (wsV RX4 155 RX2 yX2_isDropped wsX2_isDropped) := goodIn_app (goodIn_of _ (by decide +kernel)) ggX4_wish_X2_isDropped
theorem dX4_wish_0 : decode cX4_wish 0 = .ok (.iload_n 1, 1) := by decide +kernel
theorem dX4_wish_1 : decode cX4_wish 1 = .ok (.invokestatic 37, 3) := by decide +kernel
theorem dX4_wish_4 : decode cX4_wish 4 = .ok (.ifCond .ne 5, 3) := by decide +kernel
theorem dX4_wish_7 : decode cX4_wish 7 = .ok (.iconst (-1), 1) := by decide +kernel
theorem dX4_wish_8 : decode cX4_wish 8 = .ok (.ireturn, 1) := by decide +kernel
theorem dX4_wish_9 : decode cX4_wish 9 = .ok (.aload_n 0, 1) := by decide +kernel
theorem dX4_wish_10 : decode cX4_wish 10 = .ok (.getfield 33, 3) := by decide +kernel
theorem dX4_wish_13 : decode cX4_wish 13 = .ok (.iload_n 1, 1) := by decide +kernel
theorem dX4_wish_14 : decode cX4_wish 14 = .ok (.invokevirtual 64, 3) := by decide +kernel
theorem dX4_wish_17 : decode cX4_wish 17 = .ok (.ifCond .ne 5, 3) := by decide +kernel
theorem dX4_wish_20 : decode cX4_wish 20 = .ok (.iconst 0, 1) := by decide +kernel
theorem dX4_wish_21 : decode cX4_wish 21 = .ok (.ireturn, 1) := by decide +kernel
theorem dX4_wish_22 : decode cX4_wish 22 = .ok (.aload_n 0, 1) := by decide +kernel
theorem dX4_wish_23 : decode cX4_wish 23 = .ok (.getfield 33, 3) := by decide +kernel
theorem dX4_wish_26 : decode cX4_wish 26 = .ok (.iload_n 1, 1) := by decide +kernel
theorem dX4_wish_27 : decode cX4_wish 27 = .ok (.invokevirtual 143, 3) := by decide +kernel
theorem dX4_wish_30 : decode cX4_wish 30 = .ok (.ifCond .eq 16, 3) := by decide +kernel
theorem dX4_wish_33 : decode cX4_wish 33 = .ok (.sipush 10000, 3) := by decide +kernel
theorem dX4_wish_36 : decode cX4_wish 36 = .ok (.aload_n 0, 1) := by decide +kernel
theorem dX4_wish_37 : decode cX4_wish 37 = .ok (.getfield 33, 3) := by decide +kernel
theorem dX4_wish_40 : decode cX4_wish 40 = .ok (.iload_n 1, 1) := by decide +kernel
theorem dX4_wish_41 : decode cX4_wish 41 = .ok (.invokevirtual 146, 3) := by decide +kernel
theorem dX4_wish_44 : decode cX4_wish 44 = .ok (.iadd, 1) := by decide +kernel
theorem dX4_wish_45 : decode cX4_wish 45 = .ok (.ireturn, 1) := by decide +kernel
theorem dX4_wish_46 : decode cX4_wish 46 = .ok (.bipush 10, 2) := by decide +kernel
theorem dX4_wish_48 : decode cX4_wish 48 = .ok (.aload_n 0, 1) := by decide +kernel
theorem dX4_wish_49 : decode cX4_wish 49 = .ok (.getfield 33, 3) := by decide +kernel
theorem dX4_wish_52 : decode cX4_wish 52 = .ok (.iload_n 1, 1) := by decide +kernel
theorem dX4_wish_53 : decode cX4_wish 53 = .ok (.invokevirtual 149, 3) := by decide +kernel
theorem dX4_wish_56 : decode cX4_wish 56 = .ok (.imul, 1) := by decide +kernel
theorem dX4_wish_57 : decode cX4_wish 57 = .ok (.aload_n 0, 1) := by decide +kernel
theorem dX4_wish_58 : decode cX4_wish 58 = .ok (.getfield 33, 3) := by decide +kernel
theorem dX4_wish_61 : decode cX4_wish 61 = .ok (.iload_n 1, 1) := by decide +kernel
theorem dX4_wish_62 : decode cX4_wish 62 = .ok (.invokevirtual 152, 3) := by decide +kernel
theorem dX4_wish_65 : decode cX4_wish 65 = .ok (.iadd, 1) := by decide +kernel
theorem dX4_wish_66 : decode cX4_wish 66 = .ok (.istore_n 2, 1) := by decide +kernel
theorem dX4_wish_67 : decode cX4_wish 67 = .ok (.aload_n 0, 1) := by decide +kernel
theorem dX4_wish_68 : decode cX4_wish 68 = .ok (.getfield 33, 3) := by decide +kernel
theorem dX4_wish_71 : decode cX4_wish 71 = .ok (.iload_n 1, 1) := by decide +kernel
theorem dX4_wish_72 : decode cX4_wish 72 = .ok (.invokevirtual 155, 3) := by decide +kernel
theorem dX4_wish_75 : decode cX4_wish 75 = .ok (.ifCond .eq 11, 3) := by decide +kernel
theorem dX4_wish_78 : decode cX4_wish 78 = .ok (.sipush 1000, 3) := by decide +kernel
theorem dX4_wish_81 : decode cX4_wish 81 = .ok (.iload_n 2, 1) := by decide +kernel
theorem dX4_wish_82 : decode cX4_wish 82 = .ok (.iadd, 1) := by decide +kernel
theorem dX4_wish_83 : decode cX4_wish 83 = .ok (.goto 4, 3) := by decide +kernel
theorem dX4_wish_86 : decode cX4_wish 86 = .ok (.iload_n 2, 1) := by decide +kernel
theorem dX4_wish_87 : decode cX4_wish 87 = .ok (.ireturn, 1) := by decide +kernel
set_option maxRecDepth 20000 in
theorem ggX4_wake_X2_remove : GoodIn wsX4_wake wsX2_remove := goodIn_r _ [7, 8, 9, 48, 49, 50, 51, 52, 53, 54] (by decide +kernel) (by decide +kernel)
set_option maxRecDepth 20000 in
theorem gX4_wake_X2_remove : GoodIn wsX4_wake (wsV RX4 120 RX2 yX2_remove wsX2_remove) := goodIn_app (goodIn_of _ (by decide +kernel)) ggX4_wake_X2_remove
set_option maxRecDepth 20000 in
theorem ggX4_wake_X2_isForNumber : GoodIn wsX4_wake wsX2_isForNumber := goodIn_r _ [13, 14, 48, 49, 50, 51, 52, 53, 54] (by decide +kernel) (by decide +kernel)
set_option maxRecDepth 20000 in
theorem gX4_wake_X2_isForNumber : GoodIn wsX4_wake (wsV RX4 143 RX2 yX2_isForNumber wsX2_isForNumber) := goodIn_app (goodIn_of _ (by decide +kernel)) ggX4_wake_X2_isForNumber
set_option maxRecDepth 20000 in
theorem ggX4_wake_X2_isDropped : GoodIn wsX4_wake wsX2_isDropped := goodIn_r _ [18, 19, 48, 49, 50, 51, 52, 53, 54] (by decide +kernel) (by decide +kernel)
set_option maxRecDepth 20000 in
theorem gX4_wake_X2_isDropped : GoodIn wsX4_wake (wsV RX4 155 RX2 yX2_isDropped wsX2_isDropped) := goodIn_app (goodIn_of _ (by decide +kernel)) ggX4_wake_X2_isDropped
set_option maxRecDepth 20000 in
theorem ggX4_wake_X2_levelOf : GoodIn wsX4_wake wsX2_levelOf := goodIn_r _ [23, 24, 48, 49, 50, 51, 52, 53, 54] (by decide +kernel) (by decide +kernel)
set_option maxRecDepth 20000 in
theorem gX4_wake_X2_levelOf : GoodIn wsX4_wake (wsV RX4 158 RX2 yX2_levelOf wsX2_levelOf) := goodIn_app (goodIn_of _ (by decide +kernel)) ggX4_wake_X2_levelOf
set_option maxRecDepth 20000 in
theorem ggX4_wake_X2_tableOf : GoodIn wsX4_wake wsX2_tableOf := goodIn_r _ [28, 29, 48, 49, 50, 51, 52, 53, 54] (by decide +kernel) (by decide +kernel)
set_option maxRecDepth 20000 in
theorem gX4_wake_X2_tableOf : GoodIn wsX4_wake (wsV RX4 149 RX2 yX2_tableOf wsX2_tableOf) := goodIn_app (goodIn_of _ (by decide +kernel)) ggX4_wake_X2_tableOf
set_option maxRecDepth 20000 in
theorem ggX4_wake_X2_modeOf : GoodIn wsX4_wake wsX2_modeOf := goodIn_r _ [33, 34, 48, 49, 50, 51, 52, 53, 54] (by decide +kernel) (by decide +kernel)
set_option maxRecDepth 20000 in
theorem gX4_wake_X2_modeOf : GoodIn wsX4_wake (wsV RX4 152 RX2 yX2_modeOf wsX2_modeOf) := goodIn_app (goodIn_of _ (by decide +kernel)) ggX4_wake_X2_modeOf
set_option maxRecDepth 20000 in
theorem ggX4_wake_X0_take : GoodIn wsX4_wake wsX0_take := goodIn_r _ [39, 40, 41, 42, 38, 43, 55] (by decide +kernel) (by decide +kernel)
set_option maxRecDepth 20000 in
theorem gX4_wake_X0_take : GoodIn wsX4_wake (wsV RX4 79 RX0 yX0_take wsX0_take) := goodIn_app (goodIn_of _ (by decide +kernel)) ggX4_wake_X0_take
theorem dX4_wake_0 : decode cX4_wake 0 = .ok (.aload_n 0, 1) := by decide +kernel
theorem dX4_wake_1 : decode cX4_wake 1 = .ok (.getfield 33, 3) := by decide +kernel
theorem dX4_wake_4 : decode cX4_wake 4 = .ok (.iload_n 1, 1) := by decide +kernel
theorem dX4_wake_5 : decode cX4_wake 5 = .ok (.invokevirtual 120, 3) := by decide +kernel
theorem dX4_wake_8 : decode cX4_wake 8 = .ok (.aload_n 0, 1) := by decide +kernel
theorem dX4_wake_9 : decode cX4_wake 9 = .ok (.getfield 33, 3) := by decide +kernel
theorem dX4_wake_12 : decode cX4_wake 12 = .ok (.iload_n 1, 1) := by decide +kernel
theorem dX4_wake_13 : decode cX4_wake 13 = .ok (.invokevirtual 143, 3) := by decide +kernel
theorem dX4_wake_16 : decode cX4_wake 16 = .ok (.ifCond .eq 5, 3) := by decide +kernel
theorem dX4_wake_19 : decode cX4_wake 19 = .ok (.iload_n 1, 1) := by decide +kernel
theorem dX4_wake_20 : decode cX4_wake 20 = .ok (.ireturn, 1) := by decide +kernel
theorem dX4_wake_21 : decode cX4_wake 21 = .ok (.aload_n 0, 1) := by decide +kernel
theorem dX4_wake_22 : decode cX4_wake 22 = .ok (.getfield 33, 3) := by decide +kernel
theorem dX4_wake_25 : decode cX4_wake 25 = .ok (.iload_n 1, 1) := by decide +kernel
theorem dX4_wake_26 : decode cX4_wake 26 = .ok (.invokevirtual 155, 3) := by decide +kernel
theorem dX4_wake_29 : decode cX4_wake 29 = .ok (.ifCond .eq 8, 3) := by decide +kernel
theorem dX4_wake_32 : decode cX4_wake 32 = .ok (.iload_n 1, 1) := by decide +kernel
theorem dX4_wake_33 : decode cX4_wake 33 = .ok (.bipush 8, 2) := by decide +kernel
theorem dX4_wake_35 : decode cX4_wake 35 = .ok (.iadd, 1) := by decide +kernel
theorem dX4_wake_36 : decode cX4_wake 36 = .ok (.ireturn, 1) := by decide +kernel
theorem dX4_wake_37 : decode cX4_wake 37 = .ok (.aload_n 0, 1) := by decide +kernel
theorem dX4_wake_38 : decode cX4_wake 38 = .ok (.getfield 19, 3) := by decide +kernel
theorem dX4_wake_41 : decode cX4_wake 41 = .ok (.iload_n 1, 1) := by decide +kernel
theorem dX4_wake_42 : decode cX4_wake 42 = .ok (.aload_n 0, 1) := by decide +kernel
theorem dX4_wake_43 : decode cX4_wake 43 = .ok (.getfield 33, 3) := by decide +kernel
theorem dX4_wake_46 : decode cX4_wake 46 = .ok (.iload_n 1, 1) := by decide +kernel
theorem dX4_wake_47 : decode cX4_wake 47 = .ok (.invokevirtual 158, 3) := by decide +kernel
theorem dX4_wake_50 : decode cX4_wake 50 = .ok (.aload_n 0, 1) := by decide +kernel
theorem dX4_wake_51 : decode cX4_wake 51 = .ok (.getfield 33, 3) := by decide +kernel
theorem dX4_wake_54 : decode cX4_wake 54 = .ok (.iload_n 1, 1) := by decide +kernel
theorem dX4_wake_55 : decode cX4_wake 55 = .ok (.invokevirtual 149, 3) := by decide +kernel
theorem dX4_wake_58 : decode cX4_wake 58 = .ok (.aload_n 0, 1) := by decide +kernel
theorem dX4_wake_59 : decode cX4_wake 59 = .ok (.getfield 33, 3) := by decide +kernel
theorem dX4_wake_62 : decode cX4_wake 62 = .ok (.iload_n 1, 1) := by decide +kernel
theorem dX4_wake_63 : decode cX4_wake 63 = .ok (.invokevirtual 152, 3) := by decide +kernel
theorem dX4_wake_66 : decode cX4_wake 66 = .ok (.invokevirtual 79, 3) := by decide +kernel
theorem dX4_wake_69 : decode cX4_wake 69 = .ok (.iload_n 1, 1) := by decide +kernel
theorem dX4_wake_70 : decode cX4_wake 70 = .ok (.ireturn, 1) := by decide +kernel
set_option maxRecDepth 20000 in
theorem ggX4_waitsOn_X2_placeOf : GoodIn wsX4_waitsOn wsX2_placeOf := goodIn_r _ [7, 8, 9, 78, 79, 80, 81, 82, 83, 84] (by decide +kernel) (by decide +kernel)
set_option maxRecDepth 20000 in
theorem gX4_waitsOn_X2_placeOf : GoodIn wsX4_waitsOn (wsV RX4 160 RX2 yX2_placeOf wsX2_placeOf) := goodIn_app (goodIn_of _ (by decide +kernel)) ggX4_waitsOn_X2_placeOf
set_option maxRecDepth 20000 in
theorem ggX4_waitsOn_X2_isForNumber : GoodIn wsX4_waitsOn wsX2_isForNumber := goodIn_r _ [13, 14, 78, 79, 80, 81, 82, 83, 84] (by decide +kernel) (by decide +kernel)
set_option maxRecDepth 20000 in
theorem gX4_waitsOn_X2_isForNumber : GoodIn wsX4_waitsOn (wsV RX4 143 RX2 yX2_isForNumber wsX2_isForNumber) := goodIn_app (goodIn_of _ (by decide +kernel)) ggX4_waitsOn_X2_isForNumber
set_option maxRecDepth 20000 in
theorem ggX4_waitsOn_X2_numberOf : GoodIn wsX4_waitsOn wsX2_numberOf := goodIn_r _ [18, 14, 78, 79, 80, 81, 82, 83, 84] (by decide +kernel) (by decide +kernel)
set_option maxRecDepth 20000 in
theorem gX4_waitsOn_X2_numberOf : GoodIn wsX4_waitsOn (wsV RX4 146 RX2 yX2_numberOf wsX2_numberOf) := goodIn_app (goodIn_of _ (by decide +kernel)) ggX4_waitsOn_X2_numberOf
set_option maxRecDepth 20000 in
theorem ggX4_waitsOn_X1_runnerOf : GoodIn wsX4_waitsOn wsX1_runnerOf := goodIn_r _ [23, 24, 25, 26, 27, 22, 28, 29, 85, 86] (by decide +kernel) (by decide +kernel)
set_option maxRecDepth 20000 in
theorem gX4_waitsOn_X1_runnerOf : GoodIn wsX4_waitsOn (wsV RX4 45 RX1 yX1_runnerOf wsX1_runnerOf) := goodIn_app (goodIn_of _ (by decide +kernel)) ggX4_waitsOn_X1_runnerOf
set_option maxRecDepth 20000 in
theorem ggX4_waitsOn_X2_isDropped : GoodIn wsX4_waitsOn wsX2_isDropped := goodIn_r _ [33, 34, 78, 79, 80, 81, 82, 83, 84] (by decide +kernel) (by decide +kernel)
set_option maxRecDepth 20000 in
theorem gX4_waitsOn_X2_isDropped : GoodIn wsX4_waitsOn (wsV RX4 155 RX2 yX2_isDropped wsX2_isDropped) := goodIn_app (goodIn_of _ (by decide +kernel)) ggX4_waitsOn_X2_isDropped
set_option maxRecDepth 20000 in
theorem ggX4_waitsOn_X2_tableOf : GoodIn wsX4_waitsOn wsX2_tableOf := goodIn_r _ [38, 39, 78, 79, 80, 81, 82, 83, 84] (by decide +kernel) (by decide +kernel)
set_option maxRecDepth 20000 in
theorem gX4_waitsOn_X2_tableOf : GoodIn wsX4_waitsOn (wsV RX4 149 RX2 yX2_tableOf wsX2_tableOf) := goodIn_app (goodIn_of _ (by decide +kernel)) ggX4_waitsOn_X2_tableOf
set_option maxRecDepth 20000 in
theorem ggX4_waitsOn_X2_modeOf : GoodIn wsX4_waitsOn wsX2_modeOf := goodIn_r _ [43, 44, 78, 79, 80, 81, 82, 83, 84] (by decide +kernel) (by decide +kernel)
set_option maxRecDepth 20000 in
theorem gX4_waitsOn_X2_modeOf : GoodIn wsX4_waitsOn (wsV RX4 152 RX2 yX2_modeOf wsX2_modeOf) := goodIn_app (goodIn_of _ (by decide +kernel)) ggX4_waitsOn_X2_modeOf
set_option maxRecDepth 20000 in
theorem ggX4_waitsOn_X4_inTheWay : GoodIn wsX4_waitsOn wsX4_inTheWay := goodIn_r _ [49, 50, 1, 51, 52, 53, 54, 55, 56, 57, 48, 58, 59, 60, 61, 62, 63, 64, 65, 66, 67, 68, 6, 69, 8, 9, 44, 70, 71, 72, 73, 14, 39, 34, 74, 75, 76, 77, 87, 78, 79, 80, 81, 82, 83, 84] (by decide +kernel) (by decide +kernel)
set_option maxRecDepth 20000 in
theorem gX4_waitsOn_X4_inTheWay : GoodIn wsX4_waitsOn (wsV RX4 75 RX4 yX4_inTheWay wsX4_inTheWay) := goodIn_app (goodIn_of _ (by decide +kernel)) ggX4_waitsOn_X4_inTheWay
theorem dX4_waitsOn_0 : decode cX4_waitsOn 0 = .ok (.aload_n 0, 1) := by decide +kernel
theorem dX4_waitsOn_1 : decode cX4_waitsOn 1 = .ok (.getfield 33, 3) := by decide +kernel
theorem dX4_waitsOn_4 : decode cX4_waitsOn 4 = .ok (.iload_n 1, 1) := by decide +kernel
theorem dX4_waitsOn_5 : decode cX4_waitsOn 5 = .ok (.invokevirtual 160, 3) := by decide +kernel
theorem dX4_waitsOn_8 : decode cX4_waitsOn 8 = .ok (.istore_n 2, 1) := by decide +kernel
theorem dX4_waitsOn_9 : decode cX4_waitsOn 9 = .ok (.iload_n 2, 1) := by decide +kernel
theorem dX4_waitsOn_10 : decode cX4_waitsOn 10 = .ok (.iconst (-1), 1) := by decide +kernel
theorem dX4_waitsOn_11 : decode cX4_waitsOn 11 = .ok (.if_icmp .ne 5, 3) := by decide +kernel
theorem dX4_waitsOn_14 : decode cX4_waitsOn 14 = .ok (.iconst 0, 1) := by decide +kernel
theorem dX4_waitsOn_15 : decode cX4_waitsOn 15 = .ok (.ireturn, 1) := by decide +kernel
theorem dX4_waitsOn_16 : decode cX4_waitsOn 16 = .ok (.aload_n 0, 1) := by decide +kernel
theorem dX4_waitsOn_17 : decode cX4_waitsOn 17 = .ok (.getfield 33, 3) := by decide +kernel
theorem dX4_waitsOn_20 : decode cX4_waitsOn 20 = .ok (.iload_n 1, 1) := by decide +kernel
theorem dX4_waitsOn_21 : decode cX4_waitsOn 21 = .ok (.invokevirtual 143, 3) := by decide +kernel
theorem dX4_waitsOn_24 : decode cX4_waitsOn 24 = .ok (.ifCond .eq 32, 3) := by decide +kernel
theorem dX4_waitsOn_27 : decode cX4_waitsOn 27 = .ok (.aload_n 0, 1) := by decide +kernel
theorem dX4_waitsOn_28 : decode cX4_waitsOn 28 = .ok (.getfield 10, 3) := by decide +kernel
theorem dX4_waitsOn_31 : decode cX4_waitsOn 31 = .ok (.aload_n 0, 1) := by decide +kernel
theorem dX4_waitsOn_32 : decode cX4_waitsOn 32 = .ok (.getfield 33, 3) := by decide +kernel
theorem dX4_waitsOn_35 : decode cX4_waitsOn 35 = .ok (.iload_n 1, 1) := by decide +kernel
theorem dX4_waitsOn_36 : decode cX4_waitsOn 36 = .ok (.invokevirtual 146, 3) := by decide +kernel
theorem dX4_waitsOn_39 : decode cX4_waitsOn 39 = .ok (.invokevirtual 45, 3) := by decide +kernel
theorem dX4_waitsOn_42 : decode cX4_waitsOn 42 = .ok (.istore_n 3, 1) := by decide +kernel
theorem dX4_waitsOn_43 : decode cX4_waitsOn 43 = .ok (.iload_n 3, 1) := by decide +kernel
theorem dX4_waitsOn_44 : decode cX4_waitsOn 44 = .ok (.iconst (-1), 1) := by decide +kernel
theorem dX4_waitsOn_45 : decode cX4_waitsOn 45 = .ok (.if_icmp .ne 7, 3) := by decide +kernel
theorem dX4_waitsOn_48 : decode cX4_waitsOn 48 = .ok (.iconst 0, 1) := by decide +kernel
theorem dX4_waitsOn_49 : decode cX4_waitsOn 49 = .ok (.goto 6, 3) := by decide +kernel
theorem dX4_waitsOn_52 : decode cX4_waitsOn 52 = .ok (.iconst 1, 1) := by decide +kernel
theorem dX4_waitsOn_53 : decode cX4_waitsOn 53 = .ok (.iload_n 3, 1) := by decide +kernel
theorem dX4_waitsOn_54 : decode cX4_waitsOn 54 = .ok (.ishl, 1) := by decide +kernel
theorem dX4_waitsOn_55 : decode cX4_waitsOn 55 = .ok (.ireturn, 1) := by decide +kernel
theorem dX4_waitsOn_56 : decode cX4_waitsOn 56 = .ok (.aload_n 0, 1) := by decide +kernel
theorem dX4_waitsOn_57 : decode cX4_waitsOn 57 = .ok (.getfield 33, 3) := by decide +kernel
theorem dX4_waitsOn_60 : decode cX4_waitsOn 60 = .ok (.iload_n 1, 1) := by decide +kernel
theorem dX4_waitsOn_61 : decode cX4_waitsOn 61 = .ok (.invokevirtual 155, 3) := by decide +kernel
theorem dX4_waitsOn_64 : decode cX4_waitsOn 64 = .ok (.ifCond .eq 5, 3) := by decide +kernel
theorem dX4_waitsOn_67 : decode cX4_waitsOn 67 = .ok (.iconst 0, 1) := by decide +kernel
theorem dX4_waitsOn_68 : decode cX4_waitsOn 68 = .ok (.ireturn, 1) := by decide +kernel
theorem dX4_waitsOn_69 : decode cX4_waitsOn 69 = .ok (.aload_n 0, 1) := by decide +kernel
theorem dX4_waitsOn_70 : decode cX4_waitsOn 70 = .ok (.iload_n 1, 1) := by decide +kernel
theorem dX4_waitsOn_71 : decode cX4_waitsOn 71 = .ok (.aload_n 0, 1) := by decide +kernel
theorem dX4_waitsOn_72 : decode cX4_waitsOn 72 = .ok (.getfield 33, 3) := by decide +kernel
theorem dX4_waitsOn_75 : decode cX4_waitsOn 75 = .ok (.iload_n 1, 1) := by decide +kernel
theorem dX4_waitsOn_76 : decode cX4_waitsOn 76 = .ok (.invokevirtual 149, 3) := by decide +kernel
theorem dX4_waitsOn_79 : decode cX4_waitsOn 79 = .ok (.aload_n 0, 1) := by decide +kernel
theorem dX4_waitsOn_80 : decode cX4_waitsOn 80 = .ok (.getfield 33, 3) := by decide +kernel
theorem dX4_waitsOn_83 : decode cX4_waitsOn 83 = .ok (.iload_n 1, 1) := by decide +kernel
theorem dX4_waitsOn_84 : decode cX4_waitsOn 84 = .ok (.invokevirtual 152, 3) := by decide +kernel
theorem dX4_waitsOn_87 : decode cX4_waitsOn 87 = .ok (.iload_n 2, 1) := by decide +kernel
theorem dX4_waitsOn_88 : decode cX4_waitsOn 88 = .ok (.invokevirtual 75, 3) := by decide +kernel
theorem dX4_waitsOn_91 : decode cX4_waitsOn 91 = .ok (.ireturn, 1) := by decide +kernel
set_option maxRecDepth 20000 in
theorem ggX4_inTheWay_X0_standAgainst : GoodIn wsX4_inTheWay wsX0_standAgainst := goodIn_r _ [7, 8, 9, 10, 11, 12, 13, 14, 15, 16, 17, 6, 18, 38] (by decide +kernel) (by decide +kernel)
set_option maxRecDepth 20000 in
theorem gX4_inTheWay_X0_standAgainst : GoodIn wsX4_inTheWay (wsV RX4 163 RX0 yX0_standAgainst wsX0_standAgainst) := goodIn_app (goodIn_of _ (by decide +kernel)) ggX4_inTheWay_X0_standAgainst
set_option maxRecDepth 20000 in
theorem ggX4_inTheWay_X2_earlierAgainst : GoodIn wsX4_inTheWay wsX2_earlierAgainst := goodIn_r _ [23, 24, 25, 26, 27, 28, 29, 22, 30, 31, 32, 33, 9, 10, 11, 12, 13, 14, 15, 39, 40, 41, 42, 43, 44, 45] (by decide +kernel) (by decide +kernel)
set_option maxRecDepth 20000 in
theorem gX4_inTheWay_X2_earlierAgainst : GoodIn wsX4_inTheWay (wsV RX4 166 RX2 yX2_earlierAgainst wsX2_earlierAgainst) := goodIn_app (goodIn_of _ (by decide +kernel)) ggX4_inTheWay_X2_earlierAgainst
theorem dX4_inTheWay_0 : decode cX4_inTheWay 0 = .ok (.iconst 0, 1) := by decide +kernel
theorem dX4_inTheWay_1 : decode cX4_inTheWay 1 = .ok (.istore 5, 2) := by decide +kernel
theorem dX4_inTheWay_3 : decode cX4_inTheWay 3 = .ok (.iconst 0, 1) := by decide +kernel
theorem dX4_inTheWay_4 : decode cX4_inTheWay 4 = .ok (.istore 6, 2) := by decide +kernel
theorem dX4_inTheWay_6 : decode cX4_inTheWay 6 = .ok (.iload 6, 2) := by decide +kernel
theorem dX4_inTheWay_8 : decode cX4_inTheWay 8 = .ok (.bipush 6, 2) := by decide +kernel
theorem dX4_inTheWay_10 : decode cX4_inTheWay 10 = .ok (.if_icmp .ge 38, 3) := by decide +kernel
theorem dX4_inTheWay_13 : decode cX4_inTheWay 13 = .ok (.iload 6, 2) := by decide +kernel
theorem dX4_inTheWay_15 : decode cX4_inTheWay 15 = .ok (.iload_n 1, 1) := by decide +kernel
theorem dX4_inTheWay_16 : decode cX4_inTheWay 16 = .ok (.if_icmp .eq 26, 3) := by decide +kernel
theorem dX4_inTheWay_19 : decode cX4_inTheWay 19 = .ok (.aload_n 0, 1) := by decide +kernel
theorem dX4_inTheWay_20 : decode cX4_inTheWay 20 = .ok (.getfield 19, 3) := by decide +kernel
theorem dX4_inTheWay_23 : decode cX4_inTheWay 23 = .ok (.iload 6, 2) := by decide +kernel
theorem dX4_inTheWay_25 : decode cX4_inTheWay 25 = .ok (.iload_n 2, 1) := by decide +kernel
theorem dX4_inTheWay_26 : decode cX4_inTheWay 26 = .ok (.iload_n 3, 1) := by decide +kernel
theorem dX4_inTheWay_27 : decode cX4_inTheWay 27 = .ok (.invokevirtual 163, 3) := by decide +kernel
theorem dX4_inTheWay_30 : decode cX4_inTheWay 30 = .ok (.ifCond .eq 12, 3) := by decide +kernel
theorem dX4_inTheWay_33 : decode cX4_inTheWay 33 = .ok (.iload 5, 2) := by decide +kernel
theorem dX4_inTheWay_35 : decode cX4_inTheWay 35 = .ok (.iconst 1, 1) := by decide +kernel
theorem dX4_inTheWay_36 : decode cX4_inTheWay 36 = .ok (.iload 6, 2) := by decide +kernel
theorem dX4_inTheWay_38 : decode cX4_inTheWay 38 = .ok (.ishl, 1) := by decide +kernel
theorem dX4_inTheWay_39 : decode cX4_inTheWay 39 = .ok (.ior, 1) := by decide +kernel
theorem dX4_inTheWay_40 : decode cX4_inTheWay 40 = .ok (.istore 5, 2) := by decide +kernel
theorem dX4_inTheWay_42 : decode cX4_inTheWay 42 = .ok (.iinc 6 1, 3) := by decide +kernel
theorem dX4_inTheWay_45 : decode cX4_inTheWay 45 = .ok (.goto (-39), 3) := by decide +kernel
theorem dX4_inTheWay_48 : decode cX4_inTheWay 48 = .ok (.iload 5, 2) := by decide +kernel
theorem dX4_inTheWay_50 : decode cX4_inTheWay 50 = .ok (.aload_n 0, 1) := by decide +kernel
theorem dX4_inTheWay_51 : decode cX4_inTheWay 51 = .ok (.getfield 33, 3) := by decide +kernel
theorem dX4_inTheWay_54 : decode cX4_inTheWay 54 = .ok (.iload_n 2, 1) := by decide +kernel
theorem dX4_inTheWay_55 : decode cX4_inTheWay 55 = .ok (.iload_n 3, 1) := by decide +kernel
theorem dX4_inTheWay_56 : decode cX4_inTheWay 56 = .ok (.iload 4, 2) := by decide +kernel
theorem dX4_inTheWay_58 : decode cX4_inTheWay 58 = .ok (.invokevirtual 166, 3) := by decide +kernel
theorem dX4_inTheWay_61 : decode cX4_inTheWay 61 = .ok (.ior, 1) := by decide +kernel
theorem dX4_inTheWay_62 : decode cX4_inTheWay 62 = .ok (.ireturn, 1) := by decide +kernel
set_option maxRecDepth 20000 in
theorem ggX4_closesRing_X4_has : GoodIn wsX4_closesRing wsX4_has := goodIn_r _ [4] (by decide +kernel) (by decide +kernel)
set_option maxRecDepth 20000 in
theorem gX4_closesRing_X4_has : GoodIn wsX4_closesRing (va_wsS RX4 169 yX4_has wsX4_has) := goodIn_app (goodIn_of _ (by decide +kernel)) ggX4_closesRing_X4_has
set_option maxRecDepth 20000 in
theorem ggX4_closesRing_X4_waitsOn : GoodIn wsX4_closesRing wsX4_waitsOn := goodIn_r _ [8, 9, 10, 11, 12, 13, 14, 15, 16, 17, 18, 19, 20, 21, 22, 23, 24, 25, 26, 27, 28, 29, 30, 31, 32, 33, 34, 35, 36, 37, 38, 39, 40, 41, 42, 43, 44, 45, 46, 47, 48, 49, 50, 51, 52, 53, 54, 55, 3, 56, 57, 58, 59, 60, 61, 62, 63, 64, 65, 66, 1, 2, 4, 67, 68, 69, 70, 71, 72, 73, 74, 75, 76, 77, 78, 79, 80, 81, 82, 83, 84, 85, 86, 87, 88, 89, 90, 91] (by decide +kernel) (by decide +kernel)
set_option maxRecDepth 20000 in
theorem gX4_closesRing_X4_waitsOn : GoodIn wsX4_closesRing (wsV RX4 114 RX4 yX4_waitsOn wsX4_waitsOn) := goodIn_app (goodIn_of _ (by decide +kernel)) ggX4_closesRing_X4_waitsOn
theorem dX4_closesRing_0 : decode cX4_closesRing 0 = .ok (.iload_n 2, 1) := by decide +kernel
theorem dX4_closesRing_1 : decode cX4_closesRing 1 = .ok (.istore_n 3, 1) := by decide +kernel
theorem dX4_closesRing_2 : decode cX4_closesRing 2 = .ok (.iconst 0, 1) := by decide +kernel
theorem dX4_closesRing_3 : decode cX4_closesRing 3 = .ok (.istore 4, 2) := by decide +kernel
theorem dX4_closesRing_5 : decode cX4_closesRing 5 = .ok (.iload 4, 2) := by decide +kernel
end
section
theorem dX4_closesRing_7 : decode cX4_closesRing 7 = .ok (.bipush 6, 2) := by decide +kernel
theorem dX4_closesRing_9 : decode cX4_closesRing 9 = .ok (.if_icmp .ge 43, 3) := by decide +kernel
theorem dX4_closesRing_12 : decode cX4_closesRing 12 = .ok (.iconst 0, 1) := by decide +kernel
theorem dX4_closesRing_13 : decode cX4_closesRing 13 = .ok (.istore 5, 2) := by decide +kernel
theorem dX4_closesRing_15 : decode cX4_closesRing 15 = .ok (.iload 5, 2) := by decide +kernel
theorem dX4_closesRing_17 : decode cX4_closesRing 17 = .ok (.bipush 6, 2) := by decide +kernel
theorem dX4_closesRing_19 : decode cX4_closesRing 19 = .ok (.if_icmp .ge 27, 3) := by decide +kernel
theorem dX4_closesRing_22 : decode cX4_closesRing 22 = .ok (.iload_n 3, 1) := by decide +kernel
theorem dX4_closesRing_23 : decode cX4_closesRing 23 = .ok (.iload 5, 2) := by decide +kernel
theorem dX4_closesRing_25 : decode cX4_closesRing 25 = .ok (.invokestatic 169, 3) := by decide +kernel
theorem dX4_closesRing_28 : decode cX4_closesRing 28 = .ok (.ifCond .eq 12, 3) := by decide +kernel
theorem dX4_closesRing_31 : decode cX4_closesRing 31 = .ok (.iload_n 3, 1) := by decide +kernel
theorem dX4_closesRing_32 : decode cX4_closesRing 32 = .ok (.aload_n 0, 1) := by decide +kernel
theorem dX4_closesRing_33 : decode cX4_closesRing 33 = .ok (.iload 5, 2) := by decide +kernel
theorem dX4_closesRing_35 : decode cX4_closesRing 35 = .ok (.invokevirtual 114, 3) := by decide +kernel
theorem dX4_closesRing_38 : decode cX4_closesRing 38 = .ok (.ior, 1) := by decide +kernel
theorem dX4_closesRing_39 : decode cX4_closesRing 39 = .ok (.istore_n 3, 1) := by decide +kernel
theorem dX4_closesRing_40 : decode cX4_closesRing 40 = .ok (.iinc 5 1, 3) := by decide +kernel
theorem dX4_closesRing_43 : decode cX4_closesRing 43 = .ok (.goto (-28), 3) := by decide +kernel
theorem dX4_closesRing_46 : decode cX4_closesRing 46 = .ok (.iinc 4 1, 3) := by decide +kernel
theorem dX4_closesRing_49 : decode cX4_closesRing 49 = .ok (.goto (-44), 3) := by decide +kernel
theorem dX4_closesRing_52 : decode cX4_closesRing 52 = .ok (.iload_n 3, 1) := by decide +kernel
theorem dX4_closesRing_53 : decode cX4_closesRing 53 = .ok (.iload_n 1, 1) := by decide +kernel
theorem dX4_closesRing_54 : decode cX4_closesRing 54 = .ok (.invokestatic 169, 3) := by decide +kernel
theorem dX4_closesRing_57 : decode cX4_closesRing 57 = .ok (.ireturn, 1) := by decide +kernel
set_option maxRecDepth 20000 in
theorem ggX4_conflict_X4_has : GoodIn wsX4_conflict wsX4_has := goodIn_r _ [5] (by decide +kernel) (by decide +kernel)
set_option maxRecDepth 20000 in
theorem gX4_conflict_X4_has : GoodIn wsX4_conflict (va_wsS RX4 169 yX4_has wsX4_has) := goodIn_app (goodIn_of _ (by decide +kernel)) ggX4_conflict_X4_has
theorem dX4_conflict_0 : decode cX4_conflict 0 = .ok (.getstatic 172, 3) := by decide +kernel
theorem dX4_conflict_3 : decode cX4_conflict 3 = .ok (.iload_n 0, 1) := by decide +kernel
theorem dX4_conflict_4 : decode cX4_conflict 4 = .ok (.iaload, 1) := by decide +kernel
theorem dX4_conflict_5 : decode cX4_conflict 5 = .ok (.iload_n 1, 1) := by decide +kernel
theorem dX4_conflict_6 : decode cX4_conflict 6 = .ok (.invokestatic 169, 3) := by decide +kernel
theorem dX4_conflict_9 : decode cX4_conflict 9 = .ok (.ireturn, 1) := by decide +kernel
theorem dX4_has_0 : decode cX4_has 0 = .ok (.iload_n 0, 1) := by decide +kernel
theorem dX4_has_1 : decode cX4_has 1 = .ok (.iconst 1, 1) := by decide +kernel
theorem dX4_has_2 : decode cX4_has 2 = .ok (.iload_n 1, 1) := by decide +kernel
theorem dX4_has_3 : decode cX4_has 3 = .ok (.ishl, 1) := by decide +kernel
theorem dX4_has_4 : decode cX4_has 4 = .ok (.iand, 1) := by decide +kernel
theorem dX4_has_5 : decode cX4_has 5 = .ok (.ifCond .eq 7, 3) := by decide +kernel
theorem dX4_has_8 : decode cX4_has 8 = .ok (.iconst 1, 1) := by decide +kernel
theorem dX4_has_9 : decode cX4_has 9 = .ok (.goto 4, 3) := by decide +kernel
theorem dX4_has_12 : decode cX4_has 12 = .ok (.iconst 0, 1) := by decide +kernel
theorem dX4_has_13 : decode cX4_has 13 = .ok (.ireturn, 1) := by decide +kernel
theorem dX4_isSession_0 : decode cX4_isSession 0 = .ok (.iload_n 0, 1) := by decide +kernel
theorem dX4_isSession_1 : decode cX4_isSession 1 = .ok (.ifCond .lt 13, 3) := by decide +kernel
theorem dX4_isSession_4 : decode cX4_isSession 4 = .ok (.iload_n 0, 1) := by decide +kernel
theorem dX4_isSession_5 : decode cX4_isSession 5 = .ok (.bipush 6, 2) := by decide +kernel
theorem dX4_isSession_7 : decode cX4_isSession 7 = .ok (.if_icmp .ge 7, 3) := by decide +kernel
theorem dX4_isSession_10 : decode cX4_isSession 10 = .ok (.iconst 1, 1) := by decide +kernel
theorem dX4_isSession_11 : decode cX4_isSession 11 = .ok (.goto 4, 3) := by decide +kernel
theorem dX4_isSession_14 : decode cX4_isSession 14 = .ok (.iconst 0, 1) := by decide +kernel
theorem dX4_isSession_15 : decode cX4_isSession 15 = .ok (.ireturn, 1) := by decide +kernel
theorem dX4_isTable_0 : decode cX4_isTable 0 = .ok (.iload_n 0, 1) := by decide +kernel
theorem dX4_isTable_1 : decode cX4_isTable 1 = .ok (.ifCond .lt 13, 3) := by decide +kernel
theorem dX4_isTable_4 : decode cX4_isTable 4 = .ok (.iload_n 0, 1) := by decide +kernel
theorem dX4_isTable_5 : decode cX4_isTable 5 = .ok (.bipush 8, 2) := by decide +kernel
theorem dX4_isTable_7 : decode cX4_isTable 7 = .ok (.if_icmp .ge 7, 3) := by decide +kernel
theorem dX4_isTable_10 : decode cX4_isTable 10 = .ok (.iconst 1, 1) := by decide +kernel
theorem dX4_isTable_11 : decode cX4_isTable 11 = .ok (.goto 4, 3) := by decide +kernel
theorem dX4_isTable_14 : decode cX4_isTable 14 = .ok (.iconst 0, 1) := by decide +kernel
theorem dX4_isTable_15 : decode cX4_isTable 15 = .ok (.ireturn, 1) := by decide +kernel
theorem dX4_isMode_0 : decode cX4_isMode 0 = .ok (.iload_n 0, 1) := by decide +kernel
theorem dX4_isMode_1 : decode cX4_isMode 1 = .ok (.iconst 1, 1) := by decide +kernel
theorem dX4_isMode_2 : decode cX4_isMode 2 = .ok (.if_icmp .lt 13, 3) := by decide +kernel
theorem dX4_isMode_5 : decode cX4_isMode 5 = .ok (.iload_n 0, 1) := by decide +kernel
theorem dX4_isMode_6 : decode cX4_isMode 6 = .ok (.bipush 8, 2) := by decide +kernel
theorem dX4_isMode_8 : decode cX4_isMode 8 = .ok (.if_icmp .gt 7, 3) := by decide +kernel
theorem dX4_isMode_11 : decode cX4_isMode 11 = .ok (.iconst 1, 1) := by decide +kernel
theorem dX4_isMode_12 : decode cX4_isMode 12 = .ok (.goto 4, 3) := by decide +kernel
theorem dX4_isMode_15 : decode cX4_isMode 15 = .ok (.iconst 0, 1) := by decide +kernel
theorem dX4_isMode_16 : decode cX4_isMode 16 = .ok (.ireturn, 1) := by decide +kernel
theorem dX4_isLevel_0 : decode cX4_isLevel 0 = .ok (.iload_n 0, 1) := by decide +kernel
theorem dX4_isLevel_1 : decode cX4_isLevel 1 = .ok (.ifCond .lt 13, 3) := by decide +kernel
theorem dX4_isLevel_4 : decode cX4_isLevel 4 = .ok (.iload_n 0, 1) := by decide +kernel
theorem dX4_isLevel_5 : decode cX4_isLevel 5 = .ok (.bipush 8, 2) := by decide +kernel
theorem dX4_isLevel_7 : decode cX4_isLevel 7 = .ok (.if_icmp .ge 7, 3) := by decide +kernel
theorem dX4_isLevel_10 : decode cX4_isLevel 10 = .ok (.iconst 1, 1) := by decide +kernel
theorem dX4_isLevel_11 : decode cX4_isLevel 11 = .ok (.goto 4, 3) := by decide +kernel
theorem dX4_isLevel_14 : decode cX4_isLevel 14 = .ok (.iconst 0, 1) := by decide +kernel
theorem dX4_isLevel_15 : decode cX4_isLevel 15 = .ok (.ireturn, 1) := by decide +kernel
theorem dX4_isRow_0 : decode cX4_isRow 0 = .ok (.iload_n 0, 1) := by decide +kernel
theorem dX4_isRow_1 : decode cX4_isRow 1 = .ok (.ifCond .lt 14, 3) := by decide +kernel
theorem dX4_isRow_4 : decode cX4_isRow 4 = .ok (.iload_n 0, 1) := by decide +kernel
theorem dX4_isRow_5 : decode cX4_isRow 5 = .ok (.sipush 1200, 3) := by decide +kernel
theorem dX4_isRow_8 : decode cX4_isRow 8 = .ok (.if_icmp .ge 7, 3) := by decide +kernel
theorem dX4_isRow_11 : decode cX4_isRow 11 = .ok (.iconst 1, 1) := by decide +kernel
theorem dX4_isRow_12 : decode cX4_isRow 12 = .ok (.goto 4, 3) := by decide +kernel
theorem dX4_isRow_15 : decode cX4_isRow 15 = .ok (.iconst 0, 1) := by decide +kernel
theorem dX4_isRow_16 : decode cX4_isRow 16 = .ok (.ireturn, 1) := by decide +kernel
theorem dX5_init_0 : decode cX5_init 0 = .ok (.aload_n 0, 1) := by decide +kernel
theorem dX5_init_1 : decode cX5_init 1 = .ok (.invokespecial 1, 3) := by decide +kernel
theorem dX5_init_4 : decode cX5_init 4 = .ok (.aload_n 0, 1) := by decide +kernel
theorem dX5_init_5 : decode cX5_init 5 = .ok (.bipush 9, 2) := by decide +kernel
theorem dX5_init_7 : decode cX5_init 7 = .ok (.newarray .int, 2) := by decide +kernel
theorem dX5_init_9 : decode cX5_init 9 = .ok (.dup, 1) := by decide +kernel
theorem dX5_init_10 : decode cX5_init 10 = .ok (.iconst 0, 1) := by decide +kernel
theorem dX5_init_11 : decode cX5_init 11 = .ok (.iconst 0, 1) := by decide +kernel
theorem dX5_init_12 : decode cX5_init 12 = .ok (.iastore, 1) := by decide +kernel
theorem dX5_init_13 : decode cX5_init 13 = .ok (.dup, 1) := by decide +kernel
theorem dX5_init_14 : decode cX5_init 14 = .ok (.iconst 1, 1) := by decide +kernel
theorem dX5_init_15 : decode cX5_init 15 = .ok (.sipush 128, 3) := by decide +kernel
theorem dX5_init_18 : decode cX5_init 18 = .ok (.iastore, 1) := by decide +kernel
theorem dX5_init_19 : decode cX5_init 19 = .ok (.dup, 1) := by decide +kernel
theorem dX5_init_20 : decode cX5_init 20 = .ok (.iconst 2, 1) := by decide +kernel
theorem dX5_init_21 : decode cX5_init 21 = .ok (.sipush 192, 3) := by decide +kernel
theorem dX5_init_24 : decode cX5_init 24 = .ok (.iastore, 1) := by decide +kernel
theorem dX5_init_25 : decode cX5_init 25 = .ok (.dup, 1) := by decide +kernel
theorem dX5_init_26 : decode cX5_init 26 = .ok (.iconst 3, 1) := by decide +kernel
theorem dX5_init_27 : decode cX5_init 27 = .ok (.sipush 240, 3) := by decide +kernel
theorem dX5_init_30 : decode cX5_init 30 = .ok (.iastore, 1) := by decide +kernel
theorem dX5_init_31 : decode cX5_init 31 = .ok (.dup, 1) := by decide +kernel
theorem dX5_init_32 : decode cX5_init 32 = .ok (.iconst 4, 1) := by decide +kernel
theorem dX5_init_33 : decode cX5_init 33 = .ok (.sipush 248, 3) := by decide +kernel
theorem dX5_init_36 : decode cX5_init 36 = .ok (.iastore, 1) := by decide +kernel
theorem dX5_init_37 : decode cX5_init 37 = .ok (.dup, 1) := by decide +kernel
theorem dX5_init_38 : decode cX5_init 38 = .ok (.iconst 5, 1) := by decide +kernel
theorem dX5_init_39 : decode cX5_init 39 = .ok (.sipush 236, 3) := by decide +kernel
theorem dX5_init_42 : decode cX5_init 42 = .ok (.iastore, 1) := by decide +kernel
theorem dX5_init_43 : decode cX5_init 43 = .ok (.dup, 1) := by decide +kernel
theorem dX5_init_44 : decode cX5_init 44 = .ok (.bipush 6, 2) := by decide +kernel
theorem dX5_init_46 : decode cX5_init 46 = .ok (.sipush 252, 3) := by decide +kernel
theorem dX5_init_49 : decode cX5_init 49 = .ok (.iastore, 1) := by decide +kernel
theorem dX5_init_50 : decode cX5_init 50 = .ok (.dup, 1) := by decide +kernel
theorem dX5_init_51 : decode cX5_init 51 = .ok (.bipush 7, 2) := by decide +kernel
theorem dX5_init_53 : decode cX5_init 53 = .ok (.sipush 254, 3) := by decide +kernel
theorem dX5_init_56 : decode cX5_init 56 = .ok (.iastore, 1) := by decide +kernel
theorem dX5_init_57 : decode cX5_init 57 = .ok (.dup, 1) := by decide +kernel
theorem dX5_init_58 : decode cX5_init 58 = .ok (.bipush 8, 2) := by decide +kernel
theorem dX5_init_60 : decode cX5_init 60 = .ok (.sipush 255, 3) := by decide +kernel
theorem dX5_init_63 : decode cX5_init 63 = .ok (.iastore, 1) := by decide +kernel
theorem dX5_init_64 : decode cX5_init 64 = .ok (.putfield 7, 3) := by decide +kernel
theorem dX5_init_67 : decode cX5_init 67 = .ok (.aload_n 0, 1) := by decide +kernel
theorem dX5_init_68 : decode cX5_init 68 = .ok (.sipush 4001, 3) := by decide +kernel
theorem dX5_init_71 : decode cX5_init 71 = .ok (.newarray .int, 2) := by decide +kernel
theorem dX5_init_73 : decode cX5_init 73 = .ok (.putfield 13, 3) := by decide +kernel
theorem dX5_init_76 : decode cX5_init 76 = .ok (.aload_n 0, 1) := by decide +kernel
theorem dX5_init_77 : decode cX5_init 77 = .ok (.sipush 4001, 3) := by decide +kernel
theorem dX5_init_80 : decode cX5_init 80 = .ok (.newarray .boolean, 2) := by decide +kernel
theorem dX5_init_82 : decode cX5_init 82 = .ok (.putfield 16, 3) := by decide +kernel
theorem dX5_init_85 : decode cX5_init 85 = .ok (.aload_n 0, 1) := by decide +kernel
theorem dX5_init_86 : decode cX5_init 86 = .ok (.sipush 432, 3) := by decide +kernel
theorem dX5_init_89 : decode cX5_init 89 = .ok (.newarray .int, 2) := by decide +kernel
theorem dX5_init_91 : decode cX5_init 91 = .ok (.putfield 20, 3) := by decide +kernel
theorem dX5_init_94 : decode cX5_init 94 = .ok (.aload_n 0, 1) := by decide +kernel
theorem dX5_init_95 : decode cX5_init 95 = .ok (.bipush 6, 2) := by decide +kernel
theorem dX5_init_97 : decode cX5_init 97 = .ok (.newarray .int, 2) := by decide +kernel
theorem dX5_init_99 : decode cX5_init 99 = .ok (.putfield 23, 3) := by decide +kernel
theorem dX5_init_102 : decode cX5_init 102 = .ok (.aload_n 0, 1) := by decide +kernel
theorem dX5_init_103 : decode cX5_init 103 = .ok (.bipush 6, 2) := by decide +kernel
theorem dX5_init_105 : decode cX5_init 105 = .ok (.newarray .int, 2) := by decide +kernel
theorem dX5_init_107 : decode cX5_init 107 = .ok (.putfield 26, 3) := by decide +kernel
theorem dX5_init_110 : decode cX5_init 110 = .ok (.aload_n 0, 1) := by decide +kernel
theorem dX5_init_111 : decode cX5_init 111 = .ok (.bipush 6, 2) := by decide +kernel
theorem dX5_init_113 : decode cX5_init 113 = .ok (.newarray .int, 2) := by decide +kernel
theorem dX5_init_115 : decode cX5_init 115 = .ok (.putfield 29, 3) := by decide +kernel
theorem dX5_init_118 : decode cX5_init 118 = .ok (.aload_n 0, 1) := by decide +kernel
theorem dX5_init_119 : decode cX5_init 119 = .ok (.bipush 6, 2) := by decide +kernel
theorem dX5_init_121 : decode cX5_init 121 = .ok (.newarray .int, 2) := by decide +kernel
theorem dX5_init_123 : decode cX5_init 123 = .ok (.putfield 32, 3) := by decide +kernel
theorem dX5_init_126 : decode cX5_init 126 = .ok (.aload_n 0, 1) := by decide +kernel
theorem dX5_init_127 : decode cX5_init 127 = .ok (.bipush 6, 2) := by decide +kernel
theorem dX5_init_129 : decode cX5_init 129 = .ok (.newarray .boolean, 2) := by decide +kernel
theorem dX5_init_131 : decode cX5_init 131 = .ok (.putfield 35, 3) := by decide +kernel
theorem dX5_init_134 : decode cX5_init 134 = .ok (.aload_n 0, 1) := by decide +kernel
theorem dX5_init_135 : decode cX5_init 135 = .ok (.bipush 6, 2) := by decide +kernel
theorem dX5_init_137 : decode cX5_init 137 = .ok (.newarray .int, 2) := by decide +kernel
theorem dX5_init_139 : decode cX5_init 139 = .ok (.putfield 38, 3) := by decide +kernel
theorem dX5_init_142 : decode cX5_init 142 = .ok (.aload_n 0, 1) := by decide +kernel
theorem dX5_init_143 : decode cX5_init 143 = .ok (.bipush 6, 2) := by decide +kernel
theorem dX5_init_145 : decode cX5_init 145 = .ok (.newarray .int, 2) := by decide +kernel
theorem dX5_init_147 : decode cX5_init 147 = .ok (.putfield 41, 3) := by decide +kernel
theorem dX5_init_150 : decode cX5_init 150 = .ok (.aload_n 0, 1) := by decide +kernel
theorem dX5_init_151 : decode cX5_init 151 = .ok (.sipush 600, 3) := by decide +kernel
theorem dX5_init_154 : decode cX5_init 154 = .ok (.newarray .int, 2) := by decide +kernel
theorem dX5_init_156 : decode cX5_init 156 = .ok (.putfield 44, 3) := by decide +kernel
theorem dX5_init_159 : decode cX5_init 159 = .ok (.aload_n 0, 1) := by decide +kernel
theorem dX5_init_160 : decode cX5_init 160 = .ok (.sipush 600, 3) := by decide +kernel
theorem dX5_init_163 : decode cX5_init 163 = .ok (.newarray .int, 2) := by decide +kernel
theorem dX5_init_165 : decode cX5_init 165 = .ok (.putfield 47, 3) := by decide +kernel
theorem dX5_init_168 : decode cX5_init 168 = .ok (.aload_n 0, 1) := by decide +kernel
theorem dX5_init_169 : decode cX5_init 169 = .ok (.sipush 600, 3) := by decide +kernel
theorem dX5_init_172 : decode cX5_init 172 = .ok (.newarray .int, 2) := by decide +kernel
theorem dX5_init_174 : decode cX5_init 174 = .ok (.putfield 50, 3) := by decide +kernel
theorem dX5_init_177 : decode cX5_init 177 = .ok (.return_, 1) := by decide +kernel
theorem dX5_in_0 : decode cX5_in 0 = .ok (.iload_n 0, 1) := by decide +kernel
theorem dX5_in_1 : decode cX5_in 1 = .ok (.iload_n 1, 1) := by decide +kernel
theorem dX5_in_2 : decode cX5_in 2 = .ok (.if_icmp .lt 12, 3) := by decide +kernel
theorem dX5_in_5 : decode cX5_in 5 = .ok (.iload_n 0, 1) := by decide +kernel
theorem dX5_in_6 : decode cX5_in 6 = .ok (.iload_n 2, 1) := by decide +kernel
theorem dX5_in_7 : decode cX5_in 7 = .ok (.if_icmp .gt 7, 3) := by decide +kernel
theorem dX5_in_10 : decode cX5_in 10 = .ok (.iconst 1, 1) := by decide +kernel
theorem dX5_in_11 : decode cX5_in 11 = .ok (.goto 4, 3) := by decide +kernel
theorem dX5_in_14 : decode cX5_in 14 = .ok (.iconst 0, 1) := by decide +kernel
theorem dX5_in_15 : decode cX5_in 15 = .ok (.ireturn, 1) := by decide +kernel
set_option maxRecDepth 20000 in
theorem ggX5_isSession_X5_in : GoodIn wsX5_isSession wsX5_in := goodIn_r _ [4] (by decide +kernel) (by decide +kernel)
set_option maxRecDepth 20000 in
theorem gX5_isSession_X5_in : GoodIn wsX5_isSession (va_wsS RX5 53 yX5_in wsX5_in) := goodIn_app (goodIn_of _ (by decide +kernel)) ggX5_isSession_X5_in
theorem dX5_isSession_0 : decode cX5_isSession 0 = .ok (.iload_n 0, 1) := by decide +kernel
theorem dX5_isSession_1 : decode cX5_isSession 1 = .ok (.iconst 0, 1) := by decide +kernel
theorem dX5_isSession_2 : decode cX5_isSession 2 = .ok (.iconst 5, 1) := by decide +kernel
theorem dX5_isSession_3 : decode cX5_isSession 3 = .ok (.invokestatic 53, 3) := by decide +kernel
theorem dX5_isSession_6 : decode cX5_isSession 6 = .ok (.ireturn, 1) := by decide +kernel
set_option maxRecDepth 20000 in
theorem ggX5_isRunning_X5_in : GoodIn wsX5_isRunning wsX5_in := goodIn_r _ [6] (by decide +kernel) (by decide +kernel)
set_option maxRecDepth 20000 in
theorem gX5_isRunning_X5_in : GoodIn wsX5_isRunning (va_wsS RX5 53 yX5_in wsX5_in) := goodIn_app (goodIn_of _ (by decide +kernel)) ggX5_isRunning_X5_in
theorem dX5_isRunning_0 : decode cX5_isRunning 0 = .ok (.iload_n 1, 1) := by decide +kernel
theorem dX5_isRunning_1 : decode cX5_isRunning 1 = .ok (.iconst 1, 1) := by decide +kernel
theorem dX5_isRunning_2 : decode cX5_isRunning 2 = .ok (.aload_n 0, 1) := by decide +kernel
theorem dX5_isRunning_3 : decode cX5_isRunning 3 = .ok (.getfield 57, 3) := by decide +kernel
theorem dX5_isRunning_6 : decode cX5_isRunning 6 = .ok (.invokestatic 53, 3) := by decide +kernel
theorem dX5_isRunning_9 : decode cX5_isRunning 9 = .ok (.ifCond .eq 16, 3) := by decide +kernel
theorem dX5_isRunning_12 : decode cX5_isRunning 12 = .ok (.aload_n 0, 1) := by decide +kernel
theorem dX5_isRunning_13 : decode cX5_isRunning 13 = .ok (.getfield 16, 3) := by decide +kernel
theorem dX5_isRunning_16 : decode cX5_isRunning 16 = .ok (.iload_n 1, 1) := by decide +kernel
theorem dX5_isRunning_17 : decode cX5_isRunning 17 = .ok (.baload, 1) := by decide +kernel
theorem dX5_isRunning_18 : decode cX5_isRunning 18 = .ok (.ifCond .eq 7, 3) := by decide +kernel
theorem dX5_isRunning_21 : decode cX5_isRunning 21 = .ok (.iconst 1, 1) := by decide +kernel
theorem dX5_isRunning_22 : decode cX5_isRunning 22 = .ok (.goto 4, 3) := by decide +kernel
theorem dX5_isRunning_25 : decode cX5_isRunning 25 = .ok (.iconst 0, 1) := by decide +kernel
theorem dX5_isRunning_26 : decode cX5_isRunning 26 = .ok (.ireturn, 1) := by decide +kernel
theorem dX5_conflicts_0 : decode cX5_conflicts 0 = .ok (.aload_n 0, 1) := by decide +kernel
theorem dX5_conflicts_1 : decode cX5_conflicts 1 = .ok (.getfield 7, 3) := by decide +kernel
theorem dX5_conflicts_4 : decode cX5_conflicts 4 = .ok (.iload_n 1, 1) := by decide +kernel
theorem dX5_conflicts_5 : decode cX5_conflicts 5 = .ok (.iaload, 1) := by decide +kernel
theorem dX5_conflicts_6 : decode cX5_conflicts 6 = .ok (.iload_n 2, 1) := by decide +kernel
theorem dX5_conflicts_7 : decode cX5_conflicts 7 = .ok (.iconst 1, 1) := by decide +kernel
theorem dX5_conflicts_8 : decode cX5_conflicts 8 = .ok (.isub, 1) := by decide +kernel
theorem dX5_conflicts_9 : decode cX5_conflicts 9 = .ok (.ishr, 1) := by decide +kernel
theorem dX5_conflicts_10 : decode cX5_conflicts 10 = .ok (.iconst 1, 1) := by decide +kernel
theorem dX5_conflicts_11 : decode cX5_conflicts 11 = .ok (.iand, 1) := by decide +kernel
theorem dX5_conflicts_12 : decode cX5_conflicts 12 = .ok (.iconst 1, 1) := by decide +kernel
theorem dX5_conflicts_13 : decode cX5_conflicts 13 = .ok (.if_icmp .ne 7, 3) := by decide +kernel
theorem dX5_conflicts_16 : decode cX5_conflicts 16 = .ok (.iconst 1, 1) := by decide +kernel
theorem dX5_conflicts_17 : decode cX5_conflicts 17 = .ok (.goto 4, 3) := by decide +kernel
theorem dX5_conflicts_20 : decode cX5_conflicts 20 = .ok (.iconst 0, 1) := by decide +kernel
theorem dX5_conflicts_21 : decode cX5_conflicts 21 = .ok (.ireturn, 1) := by decide +kernel
set_option maxRecDepth 20000 in
theorem ggX5_number_X5_isSession : GoodIn wsX5_number wsX5_isSession := goodIn_r _ [7, 8, 9, 6, 10] (by decide +kernel) (by decide +kernel)
set_option maxRecDepth 20000 in
theorem gX5_number_X5_isSession : GoodIn wsX5_number (va_wsS RX5 61 yX5_isSession wsX5_isSession) := goodIn_app (goodIn_of _ (by decide +kernel)) ggX5_number_X5_isSession
theorem dX5_number_0 : decode cX5_number 0 = .ok (.iload_n 1, 1) := by decide +kernel
theorem dX5_number_1 : decode cX5_number 1 = .ok (.invokestatic 61, 3) := by decide +kernel
theorem dX5_number_4 : decode cX5_number 4 = .ok (.ifCond .eq 13, 3) := by decide +kernel
theorem dX5_number_7 : decode cX5_number 7 = .ok (.aload_n 0, 1) := by decide +kernel
theorem dX5_number_8 : decode cX5_number 8 = .ok (.getfield 57, 3) := by decide +kernel
theorem dX5_number_11 : decode cX5_number 11 = .ok (.sipush 4000, 3) := by decide +kernel
theorem dX5_number_14 : decode cX5_number 14 = .ok (.if_icmp .ne 5, 3) := by decide +kernel
theorem dX5_number_17 : decode cX5_number 17 = .ok (.iconst (-1), 1) := by decide +kernel
theorem dX5_number_18 : decode cX5_number 18 = .ok (.ireturn, 1) := by decide +kernel
theorem dX5_number_19 : decode cX5_number 19 = .ok (.aload_n 0, 1) := by decide +kernel
theorem dX5_number_20 : decode cX5_number 20 = .ok (.dup, 1) := by decide +kernel
theorem dX5_number_21 : decode cX5_number 21 = .ok (.getfield 57, 3) := by decide +kernel
theorem dX5_number_24 : decode cX5_number 24 = .ok (.iconst 1, 1) := by decide +kernel
theorem dX5_number_25 : decode cX5_number 25 = .ok (.iadd, 1) := by decide +kernel
theorem dX5_number_26 : decode cX5_number 26 = .ok (.putfield 57, 3) := by decide +kernel
theorem dX5_number_29 : decode cX5_number 29 = .ok (.aload_n 0, 1) := by decide +kernel
theorem dX5_number_30 : decode cX5_number 30 = .ok (.getfield 13, 3) := by decide +kernel
theorem dX5_number_33 : decode cX5_number 33 = .ok (.aload_n 0, 1) := by decide +kernel
theorem dX5_number_34 : decode cX5_number 34 = .ok (.getfield 57, 3) := by decide +kernel
theorem dX5_number_37 : decode cX5_number 37 = .ok (.iload_n 1, 1) := by decide +kernel
theorem dX5_number_38 : decode cX5_number 38 = .ok (.iastore, 1) := by decide +kernel
theorem dX5_number_39 : decode cX5_number 39 = .ok (.aload_n 0, 1) := by decide +kernel
theorem dX5_number_40 : decode cX5_number 40 = .ok (.getfield 16, 3) := by decide +kernel
theorem dX5_number_43 : decode cX5_number 43 = .ok (.aload_n 0, 1) := by decide +kernel
theorem dX5_number_44 : decode cX5_number 44 = .ok (.getfield 57, 3) := by decide +kernel
theorem dX5_number_47 : decode cX5_number 47 = .ok (.iconst 1, 1) := by decide +kernel
theorem dX5_number_48 : decode cX5_number 48 = .ok (.bastore, 1) := by decide +kernel
theorem dX5_number_49 : decode cX5_number 49 = .ok (.aload_n 0, 1) := by decide +kernel
theorem dX5_number_50 : decode cX5_number 50 = .ok (.getfield 57, 3) := by decide +kernel
theorem dX5_number_53 : decode cX5_number 53 = .ok (.ireturn, 1) := by decide +kernel
set_option maxRecDepth 20000 in
theorem ggX5_over_X5_isRunning : GoodIn wsX5_over wsX5_isRunning := goodIn_r _ [6, 7, 1, 8, 9, 5, 10, 11, 12, 13, 14, 15, 16, 17, 18, 19, 20, 21, 22, 23, 24, 25, 26, 27] (by decide +kernel) (by decide +kernel)
set_option maxRecDepth 20000 in
theorem gX5_over_X5_isRunning : GoodIn wsX5_over (wsV RX5 65 RX5 yX5_isRunning wsX5_isRunning) := goodIn_app (goodIn_of _ (by decide +kernel)) ggX5_over_X5_isRunning
theorem dX5_over_0 : decode cX5_over 0 = .ok (.aload_n 0, 1) := by decide +kernel
theorem dX5_over_1 : decode cX5_over 1 = .ok (.iload_n 1, 1) := by decide +kernel
theorem dX5_over_2 : decode cX5_over 2 = .ok (.invokevirtual 65, 3) := by decide +kernel
theorem dX5_over_5 : decode cX5_over 5 = .ok (.istore_n 2, 1) := by decide +kernel
theorem dX5_over_6 : decode cX5_over 6 = .ok (.iload_n 2, 1) := by decide +kernel
theorem dX5_over_7 : decode cX5_over 7 = .ok (.ifCond .eq 10, 3) := by decide +kernel
theorem dX5_over_10 : decode cX5_over 10 = .ok (.aload_n 0, 1) := by decide +kernel
theorem dX5_over_11 : decode cX5_over 11 = .ok (.getfield 16, 3) := by decide +kernel
theorem dX5_over_14 : decode cX5_over 14 = .ok (.iload_n 1, 1) := by decide +kernel
theorem dX5_over_15 : decode cX5_over 15 = .ok (.iconst 0, 1) := by decide +kernel
theorem dX5_over_16 : decode cX5_over 16 = .ok (.bastore, 1) := by decide +kernel
theorem dX5_over_17 : decode cX5_over 17 = .ok (.iload_n 2, 1) := by decide +kernel
theorem dX5_over_18 : decode cX5_over 18 = .ok (.ireturn, 1) := by decide +kernel
set_option maxRecDepth 20000 in
theorem ggX5_holdsAgainst_X5_conflicts : GoodIn wsX5_holdsAgainst wsX5_conflicts := goodIn_r _ [6, 7, 8, 9, 10, 11, 12, 13, 14, 15, 16, 17, 18, 19, 20, 21, 22, 23, 24] (by decide +kernel) (by decide +kernel)
set_option maxRecDepth 20000 in
theorem gX5_holdsAgainst_X5_conflicts : GoodIn wsX5_holdsAgainst (wsV RX5 68 RX5 yX5_conflicts wsX5_conflicts) := goodIn_app (goodIn_of _ (by decide +kernel)) ggX5_holdsAgainst_X5_conflicts
theorem dX5_holdsAgainst_0 : decode cX5_holdsAgainst 0 = .ok (.iconst 0, 1) := by decide +kernel
theorem dX5_holdsAgainst_1 : decode cX5_holdsAgainst 1 = .ok (.istore 4, 2) := by decide +kernel
theorem dX5_holdsAgainst_3 : decode cX5_holdsAgainst 3 = .ok (.iconst 1, 1) := by decide +kernel
theorem dX5_holdsAgainst_4 : decode cX5_holdsAgainst 4 = .ok (.istore 5, 2) := by decide +kernel
theorem dX5_holdsAgainst_6 : decode cX5_holdsAgainst 6 = .ok (.iload 5, 2) := by decide +kernel
theorem dX5_holdsAgainst_8 : decode cX5_holdsAgainst 8 = .ok (.bipush 9, 2) := by decide +kernel
theorem dX5_holdsAgainst_10 : decode cX5_holdsAgainst 10 = .ok (.if_icmp .ge 51, 3) := by decide +kernel
theorem dX5_holdsAgainst_13 : decode cX5_holdsAgainst 13 = .ok (.iload 4, 2) := by decide +kernel
theorem dX5_holdsAgainst_15 : decode cX5_holdsAgainst 15 = .ok (.ifCond .ne 33, 3) := by decide +kernel
theorem dX5_holdsAgainst_18 : decode cX5_holdsAgainst 18 = .ok (.aload_n 0, 1) := by decide +kernel
theorem dX5_holdsAgainst_19 : decode cX5_holdsAgainst 19 = .ok (.getfield 20, 3) := by decide +kernel
theorem dX5_holdsAgainst_22 : decode cX5_holdsAgainst 22 = .ok (.bipush 72, 2) := by decide +kernel
theorem dX5_holdsAgainst_24 : decode cX5_holdsAgainst 24 = .ok (.iload_n 1, 1) := by decide +kernel
theorem dX5_holdsAgainst_25 : decode cX5_holdsAgainst 25 = .ok (.imul, 1) := by decide +kernel
theorem dX5_holdsAgainst_26 : decode cX5_holdsAgainst 26 = .ok (.bipush 9, 2) := by decide +kernel
theorem dX5_holdsAgainst_28 : decode cX5_holdsAgainst 28 = .ok (.iload_n 2, 1) := by decide +kernel
theorem dX5_holdsAgainst_29 : decode cX5_holdsAgainst 29 = .ok (.imul, 1) := by decide +kernel
end
section
theorem dX5_holdsAgainst_30 : decode cX5_holdsAgainst 30 = .ok (.iadd, 1) := by decide +kernel
theorem dX5_holdsAgainst_31 : decode cX5_holdsAgainst 31 = .ok (.iload 5, 2) := by decide +kernel
theorem dX5_holdsAgainst_33 : decode cX5_holdsAgainst 33 = .ok (.iadd, 1) := by decide +kernel
theorem dX5_holdsAgainst_34 : decode cX5_holdsAgainst 34 = .ok (.iaload, 1) := by decide +kernel
theorem dX5_holdsAgainst_35 : decode cX5_holdsAgainst 35 = .ok (.ifCond .le 17, 3) := by decide +kernel
theorem dX5_holdsAgainst_38 : decode cX5_holdsAgainst 38 = .ok (.aload_n 0, 1) := by decide +kernel
theorem dX5_holdsAgainst_39 : decode cX5_holdsAgainst 39 = .ok (.iload_n 3, 1) := by decide +kernel
theorem dX5_holdsAgainst_40 : decode cX5_holdsAgainst 40 = .ok (.iload 5, 2) := by decide +kernel
theorem dX5_holdsAgainst_42 : decode cX5_holdsAgainst 42 = .ok (.invokevirtual 68, 3) := by decide +kernel
theorem dX5_holdsAgainst_45 : decode cX5_holdsAgainst 45 = .ok (.ifCond .eq 7, 3) := by decide +kernel
theorem dX5_holdsAgainst_48 : decode cX5_holdsAgainst 48 = .ok (.iconst 1, 1) := by decide +kernel
theorem dX5_holdsAgainst_49 : decode cX5_holdsAgainst 49 = .ok (.goto 4, 3) := by decide +kernel
theorem dX5_holdsAgainst_52 : decode cX5_holdsAgainst 52 = .ok (.iconst 0, 1) := by decide +kernel
theorem dX5_holdsAgainst_53 : decode cX5_holdsAgainst 53 = .ok (.istore 4, 2) := by decide +kernel
theorem dX5_holdsAgainst_55 : decode cX5_holdsAgainst 55 = .ok (.iinc 5 1, 3) := by decide +kernel
theorem dX5_holdsAgainst_58 : decode cX5_holdsAgainst 58 = .ok (.goto (-52), 3) := by decide +kernel
theorem dX5_holdsAgainst_61 : decode cX5_holdsAgainst 61 = .ok (.iload 4, 2) := by decide +kernel
theorem dX5_holdsAgainst_63 : decode cX5_holdsAgainst 63 = .ok (.ireturn, 1) := by decide +kernel
set_option maxRecDepth 20000 in
theorem ggX5_inTheWay_X5_conflicts : GoodIn wsX5_inTheWay wsX5_conflicts := goodIn_r _ [10, 11, 17, 18, 19, 20, 21, 22, 23, 24, 25, 26, 27, 28, 29, 30, 31, 32, 33] (by decide +kernel) (by decide +kernel)
set_option maxRecDepth 20000 in
theorem gX5_inTheWay_X5_conflicts : GoodIn wsX5_inTheWay (wsV RX5 68 RX5 yX5_conflicts wsX5_conflicts) := goodIn_app (goodIn_of _ (by decide +kernel)) ggX5_inTheWay_X5_conflicts
set_option maxRecDepth 20000 in
theorem ggX5_inTheWay_X5_holdsAgainst : GoodIn wsX5_inTheWay wsX5_holdsAgainst := goodIn_r _ [15, 16, 6, 7, 8, 9, 10, 11, 17, 18, 19, 20, 21, 22, 23, 24, 25, 26, 27, 28, 29, 30, 31, 32, 33] (by decide +kernel) (by decide +kernel)
set_option maxRecDepth 20000 in
theorem gX5_inTheWay_X5_holdsAgainst : GoodIn wsX5_inTheWay (wsV RX5 72 RX5 yX5_holdsAgainst wsX5_holdsAgainst) := goodIn_app (goodIn_of _ (by decide +kernel)) ggX5_inTheWay_X5_holdsAgainst
theorem dX5_inTheWay_0 : decode cX5_inTheWay 0 = .ok (.iconst 0, 1) := by decide +kernel
theorem dX5_inTheWay_1 : decode cX5_inTheWay 1 = .ok (.istore 5, 2) := by decide +kernel
theorem dX5_inTheWay_3 : decode cX5_inTheWay 3 = .ok (.iconst 0, 1) := by decide +kernel
theorem dX5_inTheWay_4 : decode cX5_inTheWay 4 = .ok (.istore 6, 2) := by decide +kernel
theorem dX5_inTheWay_6 : decode cX5_inTheWay 6 = .ok (.iload 6, 2) := by decide +kernel
theorem dX5_inTheWay_8 : decode cX5_inTheWay 8 = .ok (.bipush 6, 2) := by decide +kernel
theorem dX5_inTheWay_10 : decode cX5_inTheWay 10 = .ok (.if_icmp .ge 110, 3) := by decide +kernel
theorem dX5_inTheWay_13 : decode cX5_inTheWay 13 = .ok (.aload_n 0, 1) := by decide +kernel
theorem dX5_inTheWay_14 : decode cX5_inTheWay 14 = .ok (.getfield 23, 3) := by decide +kernel
theorem dX5_inTheWay_17 : decode cX5_inTheWay 17 = .ok (.iload 6, 2) := by decide +kernel
theorem dX5_inTheWay_19 : decode cX5_inTheWay 19 = .ok (.iaload, 1) := by decide +kernel
theorem dX5_inTheWay_20 : decode cX5_inTheWay 20 = .ok (.iconst 1, 1) := by decide +kernel
theorem dX5_inTheWay_21 : decode cX5_inTheWay 21 = .ok (.if_icmp .ne 55, 3) := by decide +kernel
theorem dX5_inTheWay_24 : decode cX5_inTheWay 24 = .ok (.aload_n 0, 1) := by decide +kernel
theorem dX5_inTheWay_25 : decode cX5_inTheWay 25 = .ok (.getfield 35, 3) := by decide +kernel
theorem dX5_inTheWay_28 : decode cX5_inTheWay 28 = .ok (.iload 6, 2) := by decide +kernel
theorem dX5_inTheWay_30 : decode cX5_inTheWay 30 = .ok (.baload, 1) := by decide +kernel
theorem dX5_inTheWay_31 : decode cX5_inTheWay 31 = .ok (.ifCond .ne 45, 3) := by decide +kernel
theorem dX5_inTheWay_34 : decode cX5_inTheWay 34 = .ok (.aload_n 0, 1) := by decide +kernel
theorem dX5_inTheWay_35 : decode cX5_inTheWay 35 = .ok (.getfield 26, 3) := by decide +kernel
theorem dX5_inTheWay_38 : decode cX5_inTheWay 38 = .ok (.iload 6, 2) := by decide +kernel
theorem dX5_inTheWay_40 : decode cX5_inTheWay 40 = .ok (.iaload, 1) := by decide +kernel
theorem dX5_inTheWay_41 : decode cX5_inTheWay 41 = .ok (.iload_n 2, 1) := by decide +kernel
theorem dX5_inTheWay_42 : decode cX5_inTheWay 42 = .ok (.if_icmp .ne 34, 3) := by decide +kernel
theorem dX5_inTheWay_45 : decode cX5_inTheWay 45 = .ok (.aload_n 0, 1) := by decide +kernel
theorem dX5_inTheWay_46 : decode cX5_inTheWay 46 = .ok (.iload_n 3, 1) := by decide +kernel
theorem dX5_inTheWay_47 : decode cX5_inTheWay 47 = .ok (.aload_n 0, 1) := by decide +kernel
theorem dX5_inTheWay_48 : decode cX5_inTheWay 48 = .ok (.getfield 29, 3) := by decide +kernel
theorem dX5_inTheWay_51 : decode cX5_inTheWay 51 = .ok (.iload 6, 2) := by decide +kernel
theorem dX5_inTheWay_53 : decode cX5_inTheWay 53 = .ok (.iaload, 1) := by decide +kernel
theorem dX5_inTheWay_54 : decode cX5_inTheWay 54 = .ok (.invokevirtual 68, 3) := by decide +kernel
theorem dX5_inTheWay_57 : decode cX5_inTheWay 57 = .ok (.ifCond .eq 19, 3) := by decide +kernel
theorem dX5_inTheWay_60 : decode cX5_inTheWay 60 = .ok (.aload_n 0, 1) := by decide +kernel
theorem dX5_inTheWay_61 : decode cX5_inTheWay 61 = .ok (.getfield 41, 3) := by decide +kernel
theorem dX5_inTheWay_64 : decode cX5_inTheWay 64 = .ok (.iload 6, 2) := by decide +kernel
theorem dX5_inTheWay_66 : decode cX5_inTheWay 66 = .ok (.iaload, 1) := by decide +kernel
theorem dX5_inTheWay_67 : decode cX5_inTheWay 67 = .ok (.iload 4, 2) := by decide +kernel
theorem dX5_inTheWay_69 : decode cX5_inTheWay 69 = .ok (.if_icmp .ge 7, 3) := by decide +kernel
theorem dX5_inTheWay_72 : decode cX5_inTheWay 72 = .ok (.iconst 1, 1) := by decide +kernel
theorem dX5_inTheWay_73 : decode cX5_inTheWay 73 = .ok (.goto 4, 3) := by decide +kernel
theorem dX5_inTheWay_76 : decode cX5_inTheWay 76 = .ok (.iconst 0, 1) := by decide +kernel
theorem dX5_inTheWay_77 : decode cX5_inTheWay 77 = .ok (.istore 7, 2) := by decide +kernel
theorem dX5_inTheWay_79 : decode cX5_inTheWay 79 = .ok (.iload 5, 2) := by decide +kernel
theorem dX5_inTheWay_81 : decode cX5_inTheWay 81 = .ok (.iload 6, 2) := by decide +kernel
theorem dX5_inTheWay_83 : decode cX5_inTheWay 83 = .ok (.iload_n 1, 1) := by decide +kernel
theorem dX5_inTheWay_84 : decode cX5_inTheWay 84 = .ok (.if_icmp .eq 26, 3) := by decide +kernel
theorem dX5_inTheWay_87 : decode cX5_inTheWay 87 = .ok (.iload 7, 2) := by decide +kernel
theorem dX5_inTheWay_89 : decode cX5_inTheWay 89 = .ok (.ifCond .ne 14, 3) := by decide +kernel
theorem dX5_inTheWay_92 : decode cX5_inTheWay 92 = .ok (.aload_n 0, 1) := by decide +kernel
theorem dX5_inTheWay_93 : decode cX5_inTheWay 93 = .ok (.iload 6, 2) := by decide +kernel
theorem dX5_inTheWay_95 : decode cX5_inTheWay 95 = .ok (.iload_n 2, 1) := by decide +kernel
theorem dX5_inTheWay_96 : decode cX5_inTheWay 96 = .ok (.iload_n 3, 1) := by decide +kernel
theorem dX5_inTheWay_97 : decode cX5_inTheWay 97 = .ok (.invokevirtual 72, 3) := by decide +kernel
theorem dX5_inTheWay_100 : decode cX5_inTheWay 100 = .ok (.ifCond .eq 10, 3) := by decide +kernel
theorem dX5_inTheWay_103 : decode cX5_inTheWay 103 = .ok (.iconst 1, 1) := by decide +kernel
theorem dX5_inTheWay_104 : decode cX5_inTheWay 104 = .ok (.iload 6, 2) := by decide +kernel
theorem dX5_inTheWay_106 : decode cX5_inTheWay 106 = .ok (.ishl, 1) := by decide +kernel
theorem dX5_inTheWay_107 : decode cX5_inTheWay 107 = .ok (.goto 4, 3) := by decide +kernel
theorem dX5_inTheWay_110 : decode cX5_inTheWay 110 = .ok (.iconst 0, 1) := by decide +kernel
theorem dX5_inTheWay_111 : decode cX5_inTheWay 111 = .ok (.ior, 1) := by decide +kernel
theorem dX5_inTheWay_112 : decode cX5_inTheWay 112 = .ok (.istore 5, 2) := by decide +kernel
theorem dX5_inTheWay_114 : decode cX5_inTheWay 114 = .ok (.iinc 6 1, 3) := by decide +kernel
theorem dX5_inTheWay_117 : decode cX5_inTheWay 117 = .ok (.goto (-111), 3) := by decide +kernel
theorem dX5_inTheWay_120 : decode cX5_inTheWay 120 = .ok (.iload 5, 2) := by decide +kernel
theorem dX5_inTheWay_122 : decode cX5_inTheWay 122 = .ok (.ireturn, 1) := by decide +kernel
set_option maxRecDepth 20000 in
theorem ggX5_waitsOn_X5_inTheWay : GoodIn wsX5_waitsOn wsX5_inTheWay := goodIn_r _ [13, 1, 5, 6, 7, 8, 14, 15, 16, 12, 17, 18, 19, 20, 21, 22, 23, 24, 25, 26, 27, 28, 29, 30, 31, 32, 33, 34, 35, 36, 37, 38, 39, 40] (by decide +kernel) (by decide +kernel)
set_option maxRecDepth 20000 in
theorem gX5_waitsOn_X5_inTheWay : GoodIn wsX5_waitsOn (wsV RX5 75 RX5 yX5_inTheWay wsX5_inTheWay) := goodIn_app (goodIn_of _ (by decide +kernel)) ggX5_waitsOn_X5_inTheWay
theorem dX5_waitsOn_0 : decode cX5_waitsOn 0 = .ok (.aload_n 0, 1) := by decide +kernel
theorem dX5_waitsOn_1 : decode cX5_waitsOn 1 = .ok (.getfield 23, 3) := by decide +kernel
theorem dX5_waitsOn_4 : decode cX5_waitsOn 4 = .ok (.iload_n 1, 1) := by decide +kernel
theorem dX5_waitsOn_5 : decode cX5_waitsOn 5 = .ok (.iaload, 1) := by decide +kernel
theorem dX5_waitsOn_6 : decode cX5_waitsOn 6 = .ok (.iconst 2, 1) := by decide +kernel
theorem dX5_waitsOn_7 : decode cX5_waitsOn 7 = .ok (.if_icmp .ne 35, 3) := by decide +kernel
theorem dX5_waitsOn_10 : decode cX5_waitsOn 10 = .ok (.aload_n 0, 1) := by decide +kernel
theorem dX5_waitsOn_11 : decode cX5_waitsOn 11 = .ok (.getfield 16, 3) := by decide +kernel
theorem dX5_waitsOn_14 : decode cX5_waitsOn 14 = .ok (.aload_n 0, 1) := by decide +kernel
theorem dX5_waitsOn_15 : decode cX5_waitsOn 15 = .ok (.getfield 38, 3) := by decide +kernel
theorem dX5_waitsOn_18 : decode cX5_waitsOn 18 = .ok (.iload_n 1, 1) := by decide +kernel
theorem dX5_waitsOn_19 : decode cX5_waitsOn 19 = .ok (.iaload, 1) := by decide +kernel
theorem dX5_waitsOn_20 : decode cX5_waitsOn 20 = .ok (.baload, 1) := by decide +kernel
theorem dX5_waitsOn_21 : decode cX5_waitsOn 21 = .ok (.ifCond .eq 19, 3) := by decide +kernel
theorem dX5_waitsOn_24 : decode cX5_waitsOn 24 = .ok (.iconst 1, 1) := by decide +kernel
theorem dX5_waitsOn_25 : decode cX5_waitsOn 25 = .ok (.aload_n 0, 1) := by decide +kernel
theorem dX5_waitsOn_26 : decode cX5_waitsOn 26 = .ok (.getfield 13, 3) := by decide +kernel
theorem dX5_waitsOn_29 : decode cX5_waitsOn 29 = .ok (.aload_n 0, 1) := by decide +kernel
theorem dX5_waitsOn_30 : decode cX5_waitsOn 30 = .ok (.getfield 38, 3) := by decide +kernel
theorem dX5_waitsOn_33 : decode cX5_waitsOn 33 = .ok (.iload_n 1, 1) := by decide +kernel
theorem dX5_waitsOn_34 : decode cX5_waitsOn 34 = .ok (.iaload, 1) := by decide +kernel
theorem dX5_waitsOn_35 : decode cX5_waitsOn 35 = .ok (.iaload, 1) := by decide +kernel
theorem dX5_waitsOn_36 : decode cX5_waitsOn 36 = .ok (.ishl, 1) := by decide +kernel
theorem dX5_waitsOn_37 : decode cX5_waitsOn 37 = .ok (.goto 4, 3) := by decide +kernel
theorem dX5_waitsOn_40 : decode cX5_waitsOn 40 = .ok (.iconst 0, 1) := by decide +kernel
theorem dX5_waitsOn_41 : decode cX5_waitsOn 41 = .ok (.ireturn, 1) := by decide +kernel
theorem dX5_waitsOn_42 : decode cX5_waitsOn 42 = .ok (.aload_n 0, 1) := by decide +kernel
theorem dX5_waitsOn_43 : decode cX5_waitsOn 43 = .ok (.getfield 23, 3) := by decide +kernel
theorem dX5_waitsOn_46 : decode cX5_waitsOn 46 = .ok (.iload_n 1, 1) := by decide +kernel
theorem dX5_waitsOn_47 : decode cX5_waitsOn 47 = .ok (.iaload, 1) := by decide +kernel
theorem dX5_waitsOn_48 : decode cX5_waitsOn 48 = .ok (.iconst 1, 1) := by decide +kernel
theorem dX5_waitsOn_49 : decode cX5_waitsOn 49 = .ok (.if_icmp .ne 38, 3) := by decide +kernel
theorem dX5_waitsOn_52 : decode cX5_waitsOn 52 = .ok (.aload_n 0, 1) := by decide +kernel
theorem dX5_waitsOn_53 : decode cX5_waitsOn 53 = .ok (.getfield 35, 3) := by decide +kernel
theorem dX5_waitsOn_56 : decode cX5_waitsOn 56 = .ok (.iload_n 1, 1) := by decide +kernel
theorem dX5_waitsOn_57 : decode cX5_waitsOn 57 = .ok (.baload, 1) := by decide +kernel
theorem dX5_waitsOn_58 : decode cX5_waitsOn 58 = .ok (.ifCond .ne 29, 3) := by decide +kernel
theorem dX5_waitsOn_61 : decode cX5_waitsOn 61 = .ok (.aload_n 0, 1) := by decide +kernel
theorem dX5_waitsOn_62 : decode cX5_waitsOn 62 = .ok (.iload_n 1, 1) := by decide +kernel
theorem dX5_waitsOn_63 : decode cX5_waitsOn 63 = .ok (.aload_n 0, 1) := by decide +kernel
theorem dX5_waitsOn_64 : decode cX5_waitsOn 64 = .ok (.getfield 26, 3) := by decide +kernel
theorem dX5_waitsOn_67 : decode cX5_waitsOn 67 = .ok (.iload_n 1, 1) := by decide +kernel
theorem dX5_waitsOn_68 : decode cX5_waitsOn 68 = .ok (.iaload, 1) := by decide +kernel
theorem dX5_waitsOn_69 : decode cX5_waitsOn 69 = .ok (.aload_n 0, 1) := by decide +kernel
theorem dX5_waitsOn_70 : decode cX5_waitsOn 70 = .ok (.getfield 29, 3) := by decide +kernel
theorem dX5_waitsOn_73 : decode cX5_waitsOn 73 = .ok (.iload_n 1, 1) := by decide +kernel
theorem dX5_waitsOn_74 : decode cX5_waitsOn 74 = .ok (.iaload, 1) := by decide +kernel
theorem dX5_waitsOn_75 : decode cX5_waitsOn 75 = .ok (.aload_n 0, 1) := by decide +kernel
theorem dX5_waitsOn_76 : decode cX5_waitsOn 76 = .ok (.getfield 41, 3) := by decide +kernel
theorem dX5_waitsOn_79 : decode cX5_waitsOn 79 = .ok (.iload_n 1, 1) := by decide +kernel
theorem dX5_waitsOn_80 : decode cX5_waitsOn 80 = .ok (.iaload, 1) := by decide +kernel
theorem dX5_waitsOn_81 : decode cX5_waitsOn 81 = .ok (.invokevirtual 75, 3) := by decide +kernel
theorem dX5_waitsOn_84 : decode cX5_waitsOn 84 = .ok (.goto 4, 3) := by decide +kernel
theorem dX5_waitsOn_87 : decode cX5_waitsOn 87 = .ok (.iconst 0, 1) := by decide +kernel
theorem dX5_waitsOn_88 : decode cX5_waitsOn 88 = .ok (.ireturn, 1) := by decide +kernel
set_option maxRecDepth 20000 in
theorem ggX5_leads_X5_waitsOn : GoodIn wsX5_leads wsX5_waitsOn := goodIn_r _ [5, 6, 7, 8, 9, 10, 11, 12, 13, 14, 15, 16, 4, 17, 18, 19, 20, 21, 22, 23, 24, 25, 26, 27, 28, 29, 30, 31, 32, 33, 34, 35, 36, 37, 38, 39, 40, 41, 42, 43, 44] (by decide +kernel) (by decide +kernel)
set_option maxRecDepth 20000 in
theorem gX5_leads_X5_waitsOn : GoodIn wsX5_leads (wsV RX5 79 RX5 yX5_waitsOn wsX5_waitsOn) := goodIn_app (goodIn_of _ (by decide +kernel)) ggX5_leads_X5_waitsOn
theorem dX5_leads_0 : decode cX5_leads 0 = .ok (.iload_n 1, 1) := by decide +kernel
theorem dX5_leads_1 : decode cX5_leads 1 = .ok (.istore_n 3, 1) := by decide +kernel
theorem dX5_leads_2 : decode cX5_leads 2 = .ok (.iconst 0, 1) := by decide +kernel
theorem dX5_leads_3 : decode cX5_leads 3 = .ok (.istore 4, 2) := by decide +kernel
theorem dX5_leads_5 : decode cX5_leads 5 = .ok (.iload 4, 2) := by decide +kernel
theorem dX5_leads_7 : decode cX5_leads 7 = .ok (.bipush 6, 2) := by decide +kernel
theorem dX5_leads_9 : decode cX5_leads 9 = .ok (.if_icmp .ge 56, 3) := by decide +kernel
theorem dX5_leads_12 : decode cX5_leads 12 = .ok (.iload_n 3, 1) := by decide +kernel
theorem dX5_leads_13 : decode cX5_leads 13 = .ok (.istore 5, 2) := by decide +kernel
theorem dX5_leads_15 : decode cX5_leads 15 = .ok (.iconst 0, 1) := by decide +kernel
theorem dX5_leads_16 : decode cX5_leads 16 = .ok (.istore 6, 2) := by decide +kernel
theorem dX5_leads_18 : decode cX5_leads 18 = .ok (.iload 6, 2) := by decide +kernel
theorem dX5_leads_20 : decode cX5_leads 20 = .ok (.bipush 6, 2) := by decide +kernel
theorem dX5_leads_22 : decode cX5_leads 22 = .ok (.if_icmp .ge 34, 3) := by decide +kernel
theorem dX5_leads_25 : decode cX5_leads 25 = .ok (.iload 5, 2) := by decide +kernel
theorem dX5_leads_27 : decode cX5_leads 27 = .ok (.iload_n 3, 1) := by decide +kernel
theorem dX5_leads_28 : decode cX5_leads 28 = .ok (.iload 6, 2) := by decide +kernel
theorem dX5_leads_30 : decode cX5_leads 30 = .ok (.ishr, 1) := by decide +kernel
theorem dX5_leads_31 : decode cX5_leads 31 = .ok (.iconst 1, 1) := by decide +kernel
theorem dX5_leads_32 : decode cX5_leads 32 = .ok (.iand, 1) := by decide +kernel
theorem dX5_leads_33 : decode cX5_leads 33 = .ok (.iconst 1, 1) := by decide +kernel
theorem dX5_leads_34 : decode cX5_leads 34 = .ok (.if_icmp .ne 12, 3) := by decide +kernel
theorem dX5_leads_37 : decode cX5_leads 37 = .ok (.aload_n 0, 1) := by decide +kernel
theorem dX5_leads_38 : decode cX5_leads 38 = .ok (.iload 6, 2) := by decide +kernel
theorem dX5_leads_40 : decode cX5_leads 40 = .ok (.invokevirtual 79, 3) := by decide +kernel
theorem dX5_leads_43 : decode cX5_leads 43 = .ok (.goto 4, 3) := by decide +kernel
theorem dX5_leads_46 : decode cX5_leads 46 = .ok (.iconst 0, 1) := by decide +kernel
theorem dX5_leads_47 : decode cX5_leads 47 = .ok (.ior, 1) := by decide +kernel
theorem dX5_leads_48 : decode cX5_leads 48 = .ok (.istore 5, 2) := by decide +kernel
theorem dX5_leads_50 : decode cX5_leads 50 = .ok (.iinc 6 1, 3) := by decide +kernel
theorem dX5_leads_53 : decode cX5_leads 53 = .ok (.goto (-35), 3) := by decide +kernel
theorem dX5_leads_56 : decode cX5_leads 56 = .ok (.iload 5, 2) := by decide +kernel
theorem dX5_leads_58 : decode cX5_leads 58 = .ok (.istore_n 3, 1) := by decide +kernel
theorem dX5_leads_59 : decode cX5_leads 59 = .ok (.iinc 4 1, 3) := by decide +kernel
theorem dX5_leads_62 : decode cX5_leads 62 = .ok (.goto (-57), 3) := by decide +kernel
theorem dX5_leads_65 : decode cX5_leads 65 = .ok (.iload_n 3, 1) := by decide +kernel
theorem dX5_leads_66 : decode cX5_leads 66 = .ok (.iload_n 2, 1) := by decide +kernel
theorem dX5_leads_67 : decode cX5_leads 67 = .ok (.ishr, 1) := by decide +kernel
theorem dX5_leads_68 : decode cX5_leads 68 = .ok (.iconst 1, 1) := by decide +kernel
theorem dX5_leads_69 : decode cX5_leads 69 = .ok (.iand, 1) := by decide +kernel
theorem dX5_leads_70 : decode cX5_leads 70 = .ok (.iconst 1, 1) := by decide +kernel
theorem dX5_leads_71 : decode cX5_leads 71 = .ok (.if_icmp .ne 7, 3) := by decide +kernel
theorem dX5_leads_74 : decode cX5_leads 74 = .ok (.iconst 1, 1) := by decide +kernel
theorem dX5_leads_75 : decode cX5_leads 75 = .ok (.goto 4, 3) := by decide +kernel
theorem dX5_leads_78 : decode cX5_leads 78 = .ok (.iconst 0, 1) := by decide +kernel
theorem dX5_leads_79 : decode cX5_leads 79 = .ok (.ireturn, 1) := by decide +kernel
theorem dX5_begin_0 : decode cX5_begin 0 = .ok (.aload_n 0, 1) := by decide +kernel
theorem dX5_begin_1 : decode cX5_begin 1 = .ok (.getfield 23, 3) := by decide +kernel
theorem dX5_begin_4 : decode cX5_begin 4 = .ok (.iload_n 1, 1) := by decide +kernel
theorem dX5_begin_5 : decode cX5_begin 5 = .ok (.iload_n 2, 1) := by decide +kernel
theorem dX5_begin_6 : decode cX5_begin 6 = .ok (.iastore, 1) := by decide +kernel
theorem dX5_begin_7 : decode cX5_begin 7 = .ok (.aload_n 0, 1) := by decide +kernel
theorem dX5_begin_8 : decode cX5_begin 8 = .ok (.dup, 1) := by decide +kernel
theorem dX5_begin_9 : decode cX5_begin 9 = .ok (.getfield 83, 3) := by decide +kernel
theorem dX5_begin_12 : decode cX5_begin 12 = .ok (.iconst 1, 1) := by decide +kernel
theorem dX5_begin_13 : decode cX5_begin 13 = .ok (.iadd, 1) := by decide +kernel
theorem dX5_begin_14 : decode cX5_begin 14 = .ok (.putfield 83, 3) := by decide +kernel
theorem dX5_begin_17 : decode cX5_begin 17 = .ok (.aload_n 0, 1) := by decide +kernel
theorem dX5_begin_18 : decode cX5_begin 18 = .ok (.getfield 41, 3) := by decide +kernel
theorem dX5_begin_21 : decode cX5_begin 21 = .ok (.iload_n 1, 1) := by decide +kernel
theorem dX5_begin_22 : decode cX5_begin 22 = .ok (.aload_n 0, 1) := by decide +kernel
theorem dX5_begin_23 : decode cX5_begin 23 = .ok (.getfield 83, 3) := by decide +kernel
theorem dX5_begin_26 : decode cX5_begin 26 = .ok (.iastore, 1) := by decide +kernel
theorem dX5_begin_27 : decode cX5_begin 27 = .ok (.return_, 1) := by decide +kernel
set_option maxRecDepth 20000 in
theorem ggX5_ask_X5_isSession : GoodIn wsX5_ask wsX5_isSession := goodIn_r _ [11, 12, 13, 10, 14] (by decide +kernel) (by decide +kernel)
set_option maxRecDepth 20000 in
theorem gX5_ask_X5_isSession : GoodIn wsX5_ask (va_wsS RX5 61 yX5_isSession wsX5_isSession) := goodIn_app (goodIn_of _ (by decide +kernel)) ggX5_ask_X5_isSession
set_option maxRecDepth 20000 in
theorem ggX5_ask_X5_in : GoodIn wsX5_ask wsX5_in := goodIn_r _ [14] (by decide +kernel) (by decide +kernel)
set_option maxRecDepth 20000 in
theorem gX5_ask_X5_in : GoodIn wsX5_ask (va_wsS RX5 53 yX5_in wsX5_in) := goodIn_app (goodIn_of _ (by decide +kernel)) ggX5_ask_X5_in
set_option maxRecDepth 20000 in
theorem ggX5_ask_X5_inTheWay : GoodIn wsX5_ask wsX5_inTheWay := goodIn_r _ [18, 1, 7, 4, 5, 19, 20, 21, 22, 10, 23, 24, 25, 26, 27, 28, 2, 44, 45, 46, 47, 48, 49, 50, 51, 52, 53, 54, 55, 56, 57, 58, 59, 60] (by decide +kernel) (by decide +kernel)
set_option maxRecDepth 20000 in
theorem gX5_ask_X5_inTheWay : GoodIn wsX5_ask (wsV RX5 75 RX5 yX5_inTheWay wsX5_inTheWay) := goodIn_app (goodIn_of _ (by decide +kernel)) ggX5_ask_X5_inTheWay
set_option maxRecDepth 20000 in
theorem ggX5_ask_X5_leads : GoodIn wsX5_ask wsX5_leads := goodIn_r _ [32, 33, 34, 35, 10, 36, 1, 37, 38, 39, 7, 4, 5, 19, 15, 16, 17, 18, 20, 21, 22, 23, 24, 25, 26, 27, 28, 2, 44, 45, 46, 47, 48, 49, 50, 51, 52, 53, 54, 55, 56, 57, 58, 59, 60] (by decide +kernel) (by decide +kernel)
set_option maxRecDepth 20000 in
theorem gX5_ask_X5_leads : GoodIn wsX5_ask (wsV RX5 86 RX5 yX5_leads wsX5_leads) := goodIn_app (goodIn_of _ (by decide +kernel)) ggX5_ask_X5_leads
set_option maxRecDepth 20000 in
theorem ggX5_ask_X5_begin : GoodIn wsX5_ask wsX5_begin := goodIn_r _ [43, 1, 3, 19, 44, 45, 46, 47, 48, 49, 50, 51, 52, 53, 54, 55, 56, 57, 58, 59, 60] (by decide +kernel) (by decide +kernel)
set_option maxRecDepth 20000 in
theorem gX5_ask_X5_begin : GoodIn wsX5_ask (wsV RX5 89 RX5 yX5_begin wsX5_begin) := goodIn_app (goodIn_of _ (by decide +kernel)) ggX5_ask_X5_begin
theorem dX5_ask_0 : decode cX5_ask 0 = .ok (.iload_n 1, 1) := by decide +kernel
theorem dX5_ask_1 : decode cX5_ask 1 = .ok (.invokestatic 61, 3) := by decide +kernel
theorem dX5_ask_4 : decode cX5_ask 4 = .ok (.ifCond .eq 43, 3) := by decide +kernel
theorem dX5_ask_7 : decode cX5_ask 7 = .ok (.iload_n 2, 1) := by decide +kernel
theorem dX5_ask_8 : decode cX5_ask 8 = .ok (.iconst 0, 1) := by decide +kernel
theorem dX5_ask_9 : decode cX5_ask 9 = .ok (.bipush 7, 2) := by decide +kernel
theorem dX5_ask_11 : decode cX5_ask 11 = .ok (.invokestatic 53, 3) := by decide +kernel
theorem dX5_ask_14 : decode cX5_ask 14 = .ok (.ifCond .eq 33, 3) := by decide +kernel
theorem dX5_ask_17 : decode cX5_ask 17 = .ok (.iload_n 3, 1) := by decide +kernel
theorem dX5_ask_18 : decode cX5_ask 18 = .ok (.iconst 0, 1) := by decide +kernel
theorem dX5_ask_19 : decode cX5_ask 19 = .ok (.bipush 7, 2) := by decide +kernel
theorem dX5_ask_21 : decode cX5_ask 21 = .ok (.invokestatic 53, 3) := by decide +kernel
theorem dX5_ask_24 : decode cX5_ask 24 = .ok (.ifCond .eq 23, 3) := by decide +kernel
theorem dX5_ask_27 : decode cX5_ask 27 = .ok (.iload 4, 2) := by decide +kernel
theorem dX5_ask_29 : decode cX5_ask 29 = .ok (.iconst 1, 1) := by decide +kernel
theorem dX5_ask_30 : decode cX5_ask 30 = .ok (.bipush 8, 2) := by decide +kernel
theorem dX5_ask_32 : decode cX5_ask 32 = .ok (.invokestatic 53, 3) := by decide +kernel
theorem dX5_ask_35 : decode cX5_ask 35 = .ok (.ifCond .eq 12, 3) := by decide +kernel
theorem dX5_ask_38 : decode cX5_ask 38 = .ok (.aload_n 0, 1) := by decide +kernel
theorem dX5_ask_39 : decode cX5_ask 39 = .ok (.getfield 23, 3) := by decide +kernel
theorem dX5_ask_42 : decode cX5_ask 42 = .ok (.iload_n 1, 1) := by decide +kernel
theorem dX5_ask_43 : decode cX5_ask 43 = .ok (.iaload, 1) := by decide +kernel
theorem dX5_ask_44 : decode cX5_ask 44 = .ok (.ifCond .eq 5, 3) := by decide +kernel
theorem dX5_ask_47 : decode cX5_ask 47 = .ok (.iconst (-1), 1) := by decide +kernel
theorem dX5_ask_48 : decode cX5_ask 48 = .ok (.ireturn, 1) := by decide +kernel
theorem dX5_ask_49 : decode cX5_ask 49 = .ok (.bipush 72, 2) := by decide +kernel
theorem dX5_ask_51 : decode cX5_ask 51 = .ok (.iload_n 1, 1) := by decide +kernel
theorem dX5_ask_52 : decode cX5_ask 52 = .ok (.imul, 1) := by decide +kernel
theorem dX5_ask_53 : decode cX5_ask 53 = .ok (.bipush 9, 2) := by decide +kernel
theorem dX5_ask_55 : decode cX5_ask 55 = .ok (.iload_n 3, 1) := by decide +kernel
theorem dX5_ask_56 : decode cX5_ask 56 = .ok (.imul, 1) := by decide +kernel
theorem dX5_ask_57 : decode cX5_ask 57 = .ok (.iadd, 1) := by decide +kernel
theorem dX5_ask_58 : decode cX5_ask 58 = .ok (.iload 4, 2) := by decide +kernel
theorem dX5_ask_60 : decode cX5_ask 60 = .ok (.iadd, 1) := by decide +kernel
theorem dX5_ask_61 : decode cX5_ask 61 = .ok (.istore 5, 2) := by decide +kernel
theorem dX5_ask_63 : decode cX5_ask 63 = .ok (.aload_n 0, 1) := by decide +kernel
theorem dX5_ask_64 : decode cX5_ask 64 = .ok (.getfield 20, 3) := by decide +kernel
theorem dX5_ask_67 : decode cX5_ask 67 = .ok (.iload 5, 2) := by decide +kernel
theorem dX5_ask_69 : decode cX5_ask 69 = .ok (.iaload, 1) := by decide +kernel
theorem dX5_ask_70 : decode cX5_ask 70 = .ok (.ifCond .le 5, 3) := by decide +kernel
theorem dX5_ask_73 : decode cX5_ask 73 = .ok (.iconst 0, 1) := by decide +kernel
theorem dX5_ask_74 : decode cX5_ask 74 = .ok (.ireturn, 1) := by decide +kernel
theorem dX5_ask_75 : decode cX5_ask 75 = .ok (.aload_n 0, 1) := by decide +kernel
theorem dX5_ask_76 : decode cX5_ask 76 = .ok (.iload_n 1, 1) := by decide +kernel
theorem dX5_ask_77 : decode cX5_ask 77 = .ok (.iload_n 3, 1) := by decide +kernel
theorem dX5_ask_78 : decode cX5_ask 78 = .ok (.iload 4, 2) := by decide +kernel
theorem dX5_ask_80 : decode cX5_ask 80 = .ok (.aload_n 0, 1) := by decide +kernel
theorem dX5_ask_81 : decode cX5_ask 81 = .ok (.getfield 83, 3) := by decide +kernel
theorem dX5_ask_84 : decode cX5_ask 84 = .ok (.iconst 1, 1) := by decide +kernel
theorem dX5_ask_85 : decode cX5_ask 85 = .ok (.iadd, 1) := by decide +kernel
theorem dX5_ask_86 : decode cX5_ask 86 = .ok (.invokevirtual 75, 3) := by decide +kernel
theorem dX5_ask_89 : decode cX5_ask 89 = .ok (.istore 6, 2) := by decide +kernel
theorem dX5_ask_91 : decode cX5_ask 91 = .ok (.iload 6, 2) := by decide +kernel
theorem dX5_ask_93 : decode cX5_ask 93 = .ok (.ifCond .ne 15, 3) := by decide +kernel
theorem dX5_ask_96 : decode cX5_ask 96 = .ok (.aload_n 0, 1) := by decide +kernel
theorem dX5_ask_97 : decode cX5_ask 97 = .ok (.getfield 20, 3) := by decide +kernel
theorem dX5_ask_100 : decode cX5_ask 100 = .ok (.iload 5, 2) := by decide +kernel
theorem dX5_ask_102 : decode cX5_ask 102 = .ok (.iload_n 2, 1) := by decide +kernel
theorem dX5_ask_103 : decode cX5_ask 103 = .ok (.iconst 1, 1) := by decide +kernel
theorem dX5_ask_104 : decode cX5_ask 104 = .ok (.iadd, 1) := by decide +kernel
theorem dX5_ask_105 : decode cX5_ask 105 = .ok (.iastore, 1) := by decide +kernel
theorem dX5_ask_106 : decode cX5_ask 106 = .ok (.iconst 0, 1) := by decide +kernel
theorem dX5_ask_107 : decode cX5_ask 107 = .ok (.ireturn, 1) := by decide +kernel
theorem dX5_ask_108 : decode cX5_ask 108 = .ok (.aload_n 0, 1) := by decide +kernel
theorem dX5_ask_109 : decode cX5_ask 109 = .ok (.iload 6, 2) := by decide +kernel
theorem dX5_ask_111 : decode cX5_ask 111 = .ok (.iload_n 1, 1) := by decide +kernel
theorem dX5_ask_112 : decode cX5_ask 112 = .ok (.invokevirtual 86, 3) := by decide +kernel
theorem dX5_ask_115 : decode cX5_ask 115 = .ok (.ifCond .eq 5, 3) := by decide +kernel
theorem dX5_ask_118 : decode cX5_ask 118 = .ok (.iconst 2, 1) := by decide +kernel
theorem dX5_ask_119 : decode cX5_ask 119 = .ok (.ireturn, 1) := by decide +kernel
theorem dX5_ask_120 : decode cX5_ask 120 = .ok (.aload_n 0, 1) := by decide +kernel
theorem dX5_ask_121 : decode cX5_ask 121 = .ok (.getfield 26, 3) := by decide +kernel
theorem dX5_ask_124 : decode cX5_ask 124 = .ok (.iload_n 1, 1) := by decide +kernel
theorem dX5_ask_125 : decode cX5_ask 125 = .ok (.iload_n 3, 1) := by decide +kernel
theorem dX5_ask_126 : decode cX5_ask 126 = .ok (.iastore, 1) := by decide +kernel
theorem dX5_ask_127 : decode cX5_ask 127 = .ok (.aload_n 0, 1) := by decide +kernel
theorem dX5_ask_128 : decode cX5_ask 128 = .ok (.getfield 29, 3) := by decide +kernel
theorem dX5_ask_131 : decode cX5_ask 131 = .ok (.iload_n 1, 1) := by decide +kernel
theorem dX5_ask_132 : decode cX5_ask 132 = .ok (.iload 4, 2) := by decide +kernel
theorem dX5_ask_134 : decode cX5_ask 134 = .ok (.iastore, 1) := by decide +kernel
end
section
theorem dX5_ask_135 : decode cX5_ask 135 = .ok (.aload_n 0, 1) := by decide +kernel
theorem dX5_ask_136 : decode cX5_ask 136 = .ok (.getfield 32, 3) := by decide +kernel
theorem dX5_ask_139 : decode cX5_ask 139 = .ok (.iload_n 1, 1) := by decide +kernel
theorem dX5_ask_140 : decode cX5_ask 140 = .ok (.iload_n 2, 1) := by decide +kernel
theorem dX5_ask_141 : decode cX5_ask 141 = .ok (.iastore, 1) := by decide +kernel
theorem dX5_ask_142 : decode cX5_ask 142 = .ok (.aload_n 0, 1) := by decide +kernel
theorem dX5_ask_143 : decode cX5_ask 143 = .ok (.getfield 35, 3) := by decide +kernel
theorem dX5_ask_146 : decode cX5_ask 146 = .ok (.iload_n 1, 1) := by decide +kernel
theorem dX5_ask_147 : decode cX5_ask 147 = .ok (.iconst 0, 1) := by decide +kernel
theorem dX5_ask_148 : decode cX5_ask 148 = .ok (.bastore, 1) := by decide +kernel
theorem dX5_ask_149 : decode cX5_ask 149 = .ok (.aload_n 0, 1) := by decide +kernel
theorem dX5_ask_150 : decode cX5_ask 150 = .ok (.iload_n 1, 1) := by decide +kernel
theorem dX5_ask_151 : decode cX5_ask 151 = .ok (.iconst 1, 1) := by decide +kernel
theorem dX5_ask_152 : decode cX5_ask 152 = .ok (.invokevirtual 89, 3) := by decide +kernel
theorem dX5_ask_155 : decode cX5_ask 155 = .ok (.iconst 1, 1) := by decide +kernel
theorem dX5_ask_156 : decode cX5_ask 156 = .ok (.ireturn, 1) := by decide +kernel
theorem dX5_shrink_0 : decode cX5_shrink 0 = .ok (.iconst 0, 1) := by decide +kernel
theorem dX5_shrink_1 : decode cX5_shrink 1 = .ok (.istore_n 1, 1) := by decide +kernel
theorem dX5_shrink_2 : decode cX5_shrink 2 = .ok (.iconst 0, 1) := by decide +kernel
theorem dX5_shrink_3 : decode cX5_shrink 3 = .ok (.istore_n 2, 1) := by decide +kernel
theorem dX5_shrink_4 : decode cX5_shrink 4 = .ok (.iload_n 2, 1) := by decide +kernel
theorem dX5_shrink_5 : decode cX5_shrink 5 = .ok (.aload_n 0, 1) := by decide +kernel
theorem dX5_shrink_6 : decode cX5_shrink 6 = .ok (.getfield 93, 3) := by decide +kernel
theorem dX5_shrink_9 : decode cX5_shrink 9 = .ok (.if_icmp .ge 62, 3) := by decide +kernel
theorem dX5_shrink_12 : decode cX5_shrink 12 = .ok (.aload_n 0, 1) := by decide +kernel
theorem dX5_shrink_13 : decode cX5_shrink 13 = .ok (.getfield 16, 3) := by decide +kernel
theorem dX5_shrink_16 : decode cX5_shrink 16 = .ok (.aload_n 0, 1) := by decide +kernel
theorem dX5_shrink_17 : decode cX5_shrink 17 = .ok (.getfield 47, 3) := by decide +kernel
theorem dX5_shrink_20 : decode cX5_shrink 20 = .ok (.iload_n 2, 1) := by decide +kernel
theorem dX5_shrink_21 : decode cX5_shrink 21 = .ok (.iaload, 1) := by decide +kernel
theorem dX5_shrink_22 : decode cX5_shrink 22 = .ok (.baload, 1) := by decide +kernel
theorem dX5_shrink_23 : decode cX5_shrink 23 = .ok (.ifCond .eq 42, 3) := by decide +kernel
theorem dX5_shrink_26 : decode cX5_shrink 26 = .ok (.aload_n 0, 1) := by decide +kernel
theorem dX5_shrink_27 : decode cX5_shrink 27 = .ok (.getfield 44, 3) := by decide +kernel
theorem dX5_shrink_30 : decode cX5_shrink 30 = .ok (.iload_n 1, 1) := by decide +kernel
theorem dX5_shrink_31 : decode cX5_shrink 31 = .ok (.aload_n 0, 1) := by decide +kernel
theorem dX5_shrink_32 : decode cX5_shrink 32 = .ok (.getfield 44, 3) := by decide +kernel
theorem dX5_shrink_35 : decode cX5_shrink 35 = .ok (.iload_n 2, 1) := by decide +kernel
theorem dX5_shrink_36 : decode cX5_shrink 36 = .ok (.iaload, 1) := by decide +kernel
theorem dX5_shrink_37 : decode cX5_shrink 37 = .ok (.iastore, 1) := by decide +kernel
theorem dX5_shrink_38 : decode cX5_shrink 38 = .ok (.aload_n 0, 1) := by decide +kernel
theorem dX5_shrink_39 : decode cX5_shrink 39 = .ok (.getfield 47, 3) := by decide +kernel
theorem dX5_shrink_42 : decode cX5_shrink 42 = .ok (.iload_n 1, 1) := by decide +kernel
theorem dX5_shrink_43 : decode cX5_shrink 43 = .ok (.aload_n 0, 1) := by decide +kernel
theorem dX5_shrink_44 : decode cX5_shrink 44 = .ok (.getfield 47, 3) := by decide +kernel
theorem dX5_shrink_47 : decode cX5_shrink 47 = .ok (.iload_n 2, 1) := by decide +kernel
theorem dX5_shrink_48 : decode cX5_shrink 48 = .ok (.iaload, 1) := by decide +kernel
theorem dX5_shrink_49 : decode cX5_shrink 49 = .ok (.iastore, 1) := by decide +kernel
theorem dX5_shrink_50 : decode cX5_shrink 50 = .ok (.aload_n 0, 1) := by decide +kernel
theorem dX5_shrink_51 : decode cX5_shrink 51 = .ok (.getfield 50, 3) := by decide +kernel
theorem dX5_shrink_54 : decode cX5_shrink 54 = .ok (.iload_n 1, 1) := by decide +kernel
theorem dX5_shrink_55 : decode cX5_shrink 55 = .ok (.aload_n 0, 1) := by decide +kernel
theorem dX5_shrink_56 : decode cX5_shrink 56 = .ok (.getfield 50, 3) := by decide +kernel
theorem dX5_shrink_59 : decode cX5_shrink 59 = .ok (.iload_n 2, 1) := by decide +kernel
theorem dX5_shrink_60 : decode cX5_shrink 60 = .ok (.iaload, 1) := by decide +kernel
theorem dX5_shrink_61 : decode cX5_shrink 61 = .ok (.iastore, 1) := by decide +kernel
theorem dX5_shrink_62 : decode cX5_shrink 62 = .ok (.iinc 1 1, 3) := by decide +kernel
theorem dX5_shrink_65 : decode cX5_shrink 65 = .ok (.iinc 2 1, 3) := by decide +kernel
theorem dX5_shrink_68 : decode cX5_shrink 68 = .ok (.goto (-64), 3) := by decide +kernel
theorem dX5_shrink_71 : decode cX5_shrink 71 = .ok (.aload_n 0, 1) := by decide +kernel
theorem dX5_shrink_72 : decode cX5_shrink 72 = .ok (.iload_n 1, 1) := by decide +kernel
theorem dX5_shrink_73 : decode cX5_shrink 73 = .ok (.putfield 93, 3) := by decide +kernel
theorem dX5_shrink_76 : decode cX5_shrink 76 = .ok (.return_, 1) := by decide +kernel
set_option maxRecDepth 20000 in
theorem ggX5_lock_X5_isRunning : GoodIn wsX5_lock wsX5_isRunning := goodIn_r _ [11, 12, 13, 14, 15, 10, 16, 21, 22, 23, 24, 25, 26, 27, 28, 29, 30, 31, 32, 33, 34, 35, 36, 37] (by decide +kernel) (by decide +kernel)
set_option maxRecDepth 20000 in
theorem gX5_lock_X5_isRunning : GoodIn wsX5_lock (wsV RX5 65 RX5 yX5_isRunning wsX5_isRunning) := goodIn_app (goodIn_of _ (by decide +kernel)) ggX5_lock_X5_isRunning
set_option maxRecDepth 20000 in
theorem ggX5_lock_X5_in : GoodIn wsX5_lock wsX5_in := goodIn_r _ [16] (by decide +kernel) (by decide +kernel)
set_option maxRecDepth 20000 in
theorem gX5_lock_X5_in : GoodIn wsX5_lock (va_wsS RX5 53 yX5_in wsX5_in) := goodIn_app (goodIn_of _ (by decide +kernel)) ggX5_lock_X5_in
set_option maxRecDepth 20000 in
theorem ggX5_lock_X5_shrink : GoodIn wsX5_lock wsX5_shrink := goodIn_r _ [20, 3, 13, 5, 4, 6, 21, 22, 23, 24, 25, 26, 27, 28, 29, 30, 31, 32, 33, 34, 35, 36, 37] (by decide +kernel) (by decide +kernel)
set_option maxRecDepth 20000 in
theorem gX5_lock_X5_shrink : GoodIn wsX5_lock (wsV RX5 96 RX5 yX5_shrink wsX5_shrink) := goodIn_app (goodIn_of _ (by decide +kernel)) ggX5_lock_X5_shrink
theorem dX5_lock_0 : decode cX5_lock 0 = .ok (.aload_n 0, 1) := by decide +kernel
theorem dX5_lock_1 : decode cX5_lock 1 = .ok (.iload_n 1, 1) := by decide +kernel
theorem dX5_lock_2 : decode cX5_lock 2 = .ok (.invokevirtual 65, 3) := by decide +kernel
theorem dX5_lock_5 : decode cX5_lock 5 = .ok (.ifCond .eq 37, 3) := by decide +kernel
theorem dX5_lock_8 : decode cX5_lock 8 = .ok (.iload_n 2, 1) := by decide +kernel
theorem dX5_lock_9 : decode cX5_lock 9 = .ok (.iconst 0, 1) := by decide +kernel
theorem dX5_lock_10 : decode cX5_lock 10 = .ok (.sipush 1199, 3) := by decide +kernel
theorem dX5_lock_13 : decode cX5_lock 13 = .ok (.invokestatic 53, 3) := by decide +kernel
theorem dX5_lock_16 : decode cX5_lock 16 = .ok (.ifCond .eq 26, 3) := by decide +kernel
theorem dX5_lock_19 : decode cX5_lock 19 = .ok (.iload_n 3, 1) := by decide +kernel
theorem dX5_lock_20 : decode cX5_lock 20 = .ok (.iconst 1, 1) := by decide +kernel
theorem dX5_lock_21 : decode cX5_lock 21 = .ok (.iconst 2, 1) := by decide +kernel
theorem dX5_lock_22 : decode cX5_lock 22 = .ok (.invokestatic 53, 3) := by decide +kernel
theorem dX5_lock_25 : decode cX5_lock 25 = .ok (.ifCond .eq 17, 3) := by decide +kernel
theorem dX5_lock_28 : decode cX5_lock 28 = .ok (.aload_n 0, 1) := by decide +kernel
theorem dX5_lock_29 : decode cX5_lock 29 = .ok (.getfield 23, 3) := by decide +kernel
theorem dX5_lock_32 : decode cX5_lock 32 = .ok (.aload_n 0, 1) := by decide +kernel
theorem dX5_lock_33 : decode cX5_lock 33 = .ok (.getfield 13, 3) := by decide +kernel
theorem dX5_lock_36 : decode cX5_lock 36 = .ok (.iload_n 1, 1) := by decide +kernel
theorem dX5_lock_37 : decode cX5_lock 37 = .ok (.iaload, 1) := by decide +kernel
theorem dX5_lock_38 : decode cX5_lock 38 = .ok (.iaload, 1) := by decide +kernel
theorem dX5_lock_39 : decode cX5_lock 39 = .ok (.ifCond .eq 5, 3) := by decide +kernel
theorem dX5_lock_42 : decode cX5_lock 42 = .ok (.iconst (-1), 1) := by decide +kernel
theorem dX5_lock_43 : decode cX5_lock 43 = .ok (.ireturn, 1) := by decide +kernel
theorem dX5_lock_44 : decode cX5_lock 44 = .ok (.aload_n 0, 1) := by decide +kernel
theorem dX5_lock_45 : decode cX5_lock 45 = .ok (.invokevirtual 96, 3) := by decide +kernel
theorem dX5_lock_48 : decode cX5_lock 48 = .ok (.iconst 0, 1) := by decide +kernel
theorem dX5_lock_49 : decode cX5_lock 49 = .ok (.istore 4, 2) := by decide +kernel
theorem dX5_lock_51 : decode cX5_lock 51 = .ok (.iconst 0, 1) := by decide +kernel
theorem dX5_lock_52 : decode cX5_lock 52 = .ok (.istore 5, 2) := by decide +kernel
theorem dX5_lock_54 : decode cX5_lock 54 = .ok (.iconst (-1), 1) := by decide +kernel
theorem dX5_lock_55 : decode cX5_lock 55 = .ok (.istore 6, 2) := by decide +kernel
theorem dX5_lock_57 : decode cX5_lock 57 = .ok (.iconst 0, 1) := by decide +kernel
theorem dX5_lock_58 : decode cX5_lock 58 = .ok (.istore 7, 2) := by decide +kernel
theorem dX5_lock_60 : decode cX5_lock 60 = .ok (.iload 7, 2) := by decide +kernel
theorem dX5_lock_62 : decode cX5_lock 62 = .ok (.aload_n 0, 1) := by decide +kernel
theorem dX5_lock_63 : decode cX5_lock 63 = .ok (.getfield 93, 3) := by decide +kernel
theorem dX5_lock_66 : decode cX5_lock 66 = .ok (.if_icmp .ge 160, 3) := by decide +kernel
theorem dX5_lock_69 : decode cX5_lock 69 = .ok (.aload_n 0, 1) := by decide +kernel
theorem dX5_lock_70 : decode cX5_lock 70 = .ok (.getfield 44, 3) := by decide +kernel
theorem dX5_lock_73 : decode cX5_lock 73 = .ok (.iload 7, 2) := by decide +kernel
theorem dX5_lock_75 : decode cX5_lock 75 = .ok (.iaload, 1) := by decide +kernel
theorem dX5_lock_76 : decode cX5_lock 76 = .ok (.iload_n 2, 1) := by decide +kernel
theorem dX5_lock_77 : decode cX5_lock 77 = .ok (.if_icmp .ne 143, 3) := by decide +kernel
theorem dX5_lock_80 : decode cX5_lock 80 = .ok (.aload_n 0, 1) := by decide +kernel
theorem dX5_lock_81 : decode cX5_lock 81 = .ok (.getfield 13, 3) := by decide +kernel
theorem dX5_lock_84 : decode cX5_lock 84 = .ok (.aload_n 0, 1) := by decide +kernel
theorem dX5_lock_85 : decode cX5_lock 85 = .ok (.getfield 47, 3) := by decide +kernel
theorem dX5_lock_88 : decode cX5_lock 88 = .ok (.iload 7, 2) := by decide +kernel
theorem dX5_lock_90 : decode cX5_lock 90 = .ok (.iaload, 1) := by decide +kernel
theorem dX5_lock_91 : decode cX5_lock 91 = .ok (.iaload, 1) := by decide +kernel
theorem dX5_lock_92 : decode cX5_lock 92 = .ok (.aload_n 0, 1) := by decide +kernel
theorem dX5_lock_93 : decode cX5_lock 93 = .ok (.getfield 13, 3) := by decide +kernel
theorem dX5_lock_96 : decode cX5_lock 96 = .ok (.iload_n 1, 1) := by decide +kernel
theorem dX5_lock_97 : decode cX5_lock 97 = .ok (.iaload, 1) := by decide +kernel
theorem dX5_lock_98 : decode cX5_lock 98 = .ok (.if_icmp .ne 7, 3) := by decide +kernel
theorem dX5_lock_101 : decode cX5_lock 101 = .ok (.iconst 1, 1) := by decide +kernel
theorem dX5_lock_102 : decode cX5_lock 102 = .ok (.goto 4, 3) := by decide +kernel
theorem dX5_lock_105 : decode cX5_lock 105 = .ok (.iconst 0, 1) := by decide +kernel
theorem dX5_lock_106 : decode cX5_lock 106 = .ok (.istore 8, 2) := by decide +kernel
theorem dX5_lock_108 : decode cX5_lock 108 = .ok (.iload 8, 2) := by decide +kernel
theorem dX5_lock_110 : decode cX5_lock 110 = .ok (.ifCond .ne 23, 3) := by decide +kernel
theorem dX5_lock_113 : decode cX5_lock 113 = .ok (.iload_n 3, 1) := by decide +kernel
theorem dX5_lock_114 : decode cX5_lock 114 = .ok (.iconst 2, 1) := by decide +kernel
theorem dX5_lock_115 : decode cX5_lock 115 = .ok (.if_icmp .eq 14, 3) := by decide +kernel
theorem dX5_lock_118 : decode cX5_lock 118 = .ok (.aload_n 0, 1) := by decide +kernel
theorem dX5_lock_119 : decode cX5_lock 119 = .ok (.getfield 50, 3) := by decide +kernel
theorem dX5_lock_122 : decode cX5_lock 122 = .ok (.iload 7, 2) := by decide +kernel
theorem dX5_lock_124 : decode cX5_lock 124 = .ok (.iaload, 1) := by decide +kernel
theorem dX5_lock_125 : decode cX5_lock 125 = .ok (.iconst 2, 1) := by decide +kernel
theorem dX5_lock_126 : decode cX5_lock 126 = .ok (.if_icmp .ne 7, 3) := by decide +kernel
theorem dX5_lock_129 : decode cX5_lock 129 = .ok (.iconst 1, 1) := by decide +kernel
theorem dX5_lock_130 : decode cX5_lock 130 = .ok (.goto 4, 3) := by decide +kernel
theorem dX5_lock_133 : decode cX5_lock 133 = .ok (.iconst 0, 1) := by decide +kernel
theorem dX5_lock_134 : decode cX5_lock 134 = .ok (.istore 9, 2) := by decide +kernel
theorem dX5_lock_136 : decode cX5_lock 136 = .ok (.iload 9, 2) := by decide +kernel
theorem dX5_lock_138 : decode cX5_lock 138 = .ok (.ifCond .eq 30, 3) := by decide +kernel
theorem dX5_lock_141 : decode cX5_lock 141 = .ok (.iload 4, 2) := by decide +kernel
theorem dX5_lock_143 : decode cX5_lock 143 = .ok (.ifCond .eq 15, 3) := by decide +kernel
theorem dX5_lock_146 : decode cX5_lock 146 = .ok (.aload_n 0, 1) := by decide +kernel
theorem dX5_lock_147 : decode cX5_lock 147 = .ok (.getfield 47, 3) := by decide +kernel
theorem dX5_lock_150 : decode cX5_lock 150 = .ok (.iload 7, 2) := by decide +kernel
theorem dX5_lock_152 : decode cX5_lock 152 = .ok (.iaload, 1) := by decide +kernel
theorem dX5_lock_153 : decode cX5_lock 153 = .ok (.iload 4, 2) := by decide +kernel
theorem dX5_lock_155 : decode cX5_lock 155 = .ok (.if_icmp .ge 13, 3) := by decide +kernel
theorem dX5_lock_158 : decode cX5_lock 158 = .ok (.aload_n 0, 1) := by decide +kernel
theorem dX5_lock_159 : decode cX5_lock 159 = .ok (.getfield 47, 3) := by decide +kernel
theorem dX5_lock_162 : decode cX5_lock 162 = .ok (.iload 7, 2) := by decide +kernel
theorem dX5_lock_164 : decode cX5_lock 164 = .ok (.iaload, 1) := by decide +kernel
theorem dX5_lock_165 : decode cX5_lock 165 = .ok (.goto 5, 3) := by decide +kernel
theorem dX5_lock_168 : decode cX5_lock 168 = .ok (.iload 4, 2) := by decide +kernel
theorem dX5_lock_170 : decode cX5_lock 170 = .ok (.istore 4, 2) := by decide +kernel
theorem dX5_lock_172 : decode cX5_lock 172 = .ok (.iload 5, 2) := by decide +kernel
theorem dX5_lock_174 : decode cX5_lock 174 = .ok (.ifCond .ne 19, 3) := by decide +kernel
theorem dX5_lock_177 : decode cX5_lock 177 = .ok (.iload 8, 2) := by decide +kernel
theorem dX5_lock_179 : decode cX5_lock 179 = .ok (.ifCond .eq 18, 3) := by decide +kernel
theorem dX5_lock_182 : decode cX5_lock 182 = .ok (.aload_n 0, 1) := by decide +kernel
theorem dX5_lock_183 : decode cX5_lock 183 = .ok (.getfield 50, 3) := by decide +kernel
theorem dX5_lock_186 : decode cX5_lock 186 = .ok (.iload 7, 2) := by decide +kernel
theorem dX5_lock_188 : decode cX5_lock 188 = .ok (.iaload, 1) := by decide +kernel
theorem dX5_lock_189 : decode cX5_lock 189 = .ok (.iload_n 3, 1) := by decide +kernel
theorem dX5_lock_190 : decode cX5_lock 190 = .ok (.if_icmp .lt 7, 3) := by decide +kernel
theorem dX5_lock_193 : decode cX5_lock 193 = .ok (.iconst 1, 1) := by decide +kernel
theorem dX5_lock_194 : decode cX5_lock 194 = .ok (.goto 4, 3) := by decide +kernel
theorem dX5_lock_197 : decode cX5_lock 197 = .ok (.iconst 0, 1) := by decide +kernel
theorem dX5_lock_198 : decode cX5_lock 198 = .ok (.istore 5, 2) := by decide +kernel
theorem dX5_lock_200 : decode cX5_lock 200 = .ok (.aload_n 0, 1) := by decide +kernel
theorem dX5_lock_201 : decode cX5_lock 201 = .ok (.getfield 47, 3) := by decide +kernel
theorem dX5_lock_204 : decode cX5_lock 204 = .ok (.iload 7, 2) := by decide +kernel
theorem dX5_lock_206 : decode cX5_lock 206 = .ok (.iaload, 1) := by decide +kernel
theorem dX5_lock_207 : decode cX5_lock 207 = .ok (.iload_n 1, 1) := by decide +kernel
theorem dX5_lock_208 : decode cX5_lock 208 = .ok (.if_icmp .ne 8, 3) := by decide +kernel
theorem dX5_lock_211 : decode cX5_lock 211 = .ok (.iload 7, 2) := by decide +kernel
theorem dX5_lock_213 : decode cX5_lock 213 = .ok (.goto 5, 3) := by decide +kernel
theorem dX5_lock_216 : decode cX5_lock 216 = .ok (.iload 6, 2) := by decide +kernel
theorem dX5_lock_218 : decode cX5_lock 218 = .ok (.istore 6, 2) := by decide +kernel
theorem dX5_lock_220 : decode cX5_lock 220 = .ok (.iinc 7 1, 3) := by decide +kernel
theorem dX5_lock_223 : decode cX5_lock 223 = .ok (.goto (-163), 3) := by decide +kernel
theorem dX5_lock_226 : decode cX5_lock 226 = .ok (.iload 4, 2) := by decide +kernel
theorem dX5_lock_228 : decode cX5_lock 228 = .ok (.ifCond .gt 8, 3) := by decide +kernel
theorem dX5_lock_231 : decode cX5_lock 231 = .ok (.iload 5, 2) := by decide +kernel
theorem dX5_lock_233 : decode cX5_lock 233 = .ok (.ifCond .eq 15, 3) := by decide +kernel
theorem dX5_lock_236 : decode cX5_lock 236 = .ok (.iload 5, 2) := by decide +kernel
theorem dX5_lock_238 : decode cX5_lock 238 = .ok (.ifCond .eq 7, 3) := by decide +kernel
theorem dX5_lock_241 : decode cX5_lock 241 = .ok (.iconst 0, 1) := by decide +kernel
theorem dX5_lock_242 : decode cX5_lock 242 = .ok (.goto 5, 3) := by decide +kernel
theorem dX5_lock_245 : decode cX5_lock 245 = .ok (.iload 4, 2) := by decide +kernel
theorem dX5_lock_247 : decode cX5_lock 247 = .ok (.ireturn, 1) := by decide +kernel
theorem dX5_lock_248 : decode cX5_lock 248 = .ok (.iload 6, 2) := by decide +kernel
theorem dX5_lock_250 : decode cX5_lock 250 = .ok (.ifCond .ge 35, 3) := by decide +kernel
theorem dX5_lock_253 : decode cX5_lock 253 = .ok (.aload_n 0, 1) := by decide +kernel
theorem dX5_lock_254 : decode cX5_lock 254 = .ok (.getfield 93, 3) := by decide +kernel
theorem dX5_lock_257 : decode cX5_lock 257 = .ok (.istore 6, 2) := by decide +kernel
theorem dX5_lock_259 : decode cX5_lock 259 = .ok (.aload_n 0, 1) := by decide +kernel
theorem dX5_lock_260 : decode cX5_lock 260 = .ok (.getfield 44, 3) := by decide +kernel
theorem dX5_lock_263 : decode cX5_lock 263 = .ok (.iload 6, 2) := by decide +kernel
theorem dX5_lock_265 : decode cX5_lock 265 = .ok (.iload_n 2, 1) := by decide +kernel
theorem dX5_lock_266 : decode cX5_lock 266 = .ok (.iastore, 1) := by decide +kernel
theorem dX5_lock_267 : decode cX5_lock 267 = .ok (.aload_n 0, 1) := by decide +kernel
theorem dX5_lock_268 : decode cX5_lock 268 = .ok (.getfield 47, 3) := by decide +kernel
theorem dX5_lock_271 : decode cX5_lock 271 = .ok (.iload 6, 2) := by decide +kernel
theorem dX5_lock_273 : decode cX5_lock 273 = .ok (.iload_n 1, 1) := by decide +kernel
theorem dX5_lock_274 : decode cX5_lock 274 = .ok (.iastore, 1) := by decide +kernel
theorem dX5_lock_275 : decode cX5_lock 275 = .ok (.aload_n 0, 1) := by decide +kernel
theorem dX5_lock_276 : decode cX5_lock 276 = .ok (.dup, 1) := by decide +kernel
theorem dX5_lock_277 : decode cX5_lock 277 = .ok (.getfield 93, 3) := by decide +kernel
theorem dX5_lock_280 : decode cX5_lock 280 = .ok (.iconst 1, 1) := by decide +kernel
theorem dX5_lock_281 : decode cX5_lock 281 = .ok (.iadd, 1) := by decide +kernel
theorem dX5_lock_282 : decode cX5_lock 282 = .ok (.putfield 93, 3) := by decide +kernel
theorem dX5_lock_285 : decode cX5_lock 285 = .ok (.aload_n 0, 1) := by decide +kernel
theorem dX5_lock_286 : decode cX5_lock 286 = .ok (.getfield 50, 3) := by decide +kernel
theorem dX5_lock_289 : decode cX5_lock 289 = .ok (.iload 6, 2) := by decide +kernel
theorem dX5_lock_291 : decode cX5_lock 291 = .ok (.iload_n 3, 1) := by decide +kernel
theorem dX5_lock_292 : decode cX5_lock 292 = .ok (.iastore, 1) := by decide +kernel
theorem dX5_lock_293 : decode cX5_lock 293 = .ok (.iconst 0, 1) := by decide +kernel
theorem dX5_lock_294 : decode cX5_lock 294 = .ok (.ireturn, 1) := by decide +kernel
set_option maxRecDepth 20000 in
theorem ggX5_clear_X5_in : GoodIn wsX5_clear wsX5_in := goodIn_r _ [8] (by decide +kernel) (by decide +kernel)
set_option maxRecDepth 20000 in
theorem gX5_clear_X5_in : GoodIn wsX5_clear (va_wsS RX5 53 yX5_in wsX5_in) := goodIn_app (goodIn_of _ (by decide +kernel)) ggX5_clear_X5_in
theorem dX5_clear_0 : decode cX5_clear 0 = .ok (.iload_n 1, 1) := by decide +kernel
theorem dX5_clear_1 : decode cX5_clear 1 = .ok (.iconst 0, 1) := by decide +kernel
theorem dX5_clear_2 : decode cX5_clear 2 = .ok (.sipush 1199, 3) := by decide +kernel
theorem dX5_clear_5 : decode cX5_clear 5 = .ok (.invokestatic 53, 3) := by decide +kernel
theorem dX5_clear_8 : decode cX5_clear 8 = .ok (.ifCond .ne 5, 3) := by decide +kernel
theorem dX5_clear_11 : decode cX5_clear 11 = .ok (.iconst 0, 1) := by decide +kernel
theorem dX5_clear_12 : decode cX5_clear 12 = .ok (.ireturn, 1) := by decide +kernel
theorem dX5_clear_13 : decode cX5_clear 13 = .ok (.iconst 0, 1) := by decide +kernel
theorem dX5_clear_14 : decode cX5_clear 14 = .ok (.istore_n 2, 1) := by decide +kernel
theorem dX5_clear_15 : decode cX5_clear 15 = .ok (.iconst 0, 1) := by decide +kernel
theorem dX5_clear_16 : decode cX5_clear 16 = .ok (.istore_n 3, 1) := by decide +kernel
theorem dX5_clear_17 : decode cX5_clear 17 = .ok (.iload_n 3, 1) := by decide +kernel
theorem dX5_clear_18 : decode cX5_clear 18 = .ok (.aload_n 0, 1) := by decide +kernel
theorem dX5_clear_19 : decode cX5_clear 19 = .ok (.getfield 93, 3) := by decide +kernel
theorem dX5_clear_22 : decode cX5_clear 22 = .ok (.if_icmp .ge 58, 3) := by decide +kernel
theorem dX5_clear_25 : decode cX5_clear 25 = .ok (.aload_n 0, 1) := by decide +kernel
theorem dX5_clear_26 : decode cX5_clear 26 = .ok (.getfield 44, 3) := by decide +kernel
theorem dX5_clear_29 : decode cX5_clear 29 = .ok (.iload_n 3, 1) := by decide +kernel
theorem dX5_clear_30 : decode cX5_clear 30 = .ok (.iaload, 1) := by decide +kernel
theorem dX5_clear_31 : decode cX5_clear 31 = .ok (.iload_n 1, 1) := by decide +kernel
theorem dX5_clear_32 : decode cX5_clear 32 = .ok (.if_icmp .eq 42, 3) := by decide +kernel
theorem dX5_clear_35 : decode cX5_clear 35 = .ok (.aload_n 0, 1) := by decide +kernel
theorem dX5_clear_36 : decode cX5_clear 36 = .ok (.getfield 44, 3) := by decide +kernel
theorem dX5_clear_39 : decode cX5_clear 39 = .ok (.iload_n 2, 1) := by decide +kernel
theorem dX5_clear_40 : decode cX5_clear 40 = .ok (.aload_n 0, 1) := by decide +kernel
theorem dX5_clear_41 : decode cX5_clear 41 = .ok (.getfield 44, 3) := by decide +kernel
theorem dX5_clear_44 : decode cX5_clear 44 = .ok (.iload_n 3, 1) := by decide +kernel
theorem dX5_clear_45 : decode cX5_clear 45 = .ok (.iaload, 1) := by decide +kernel
theorem dX5_clear_46 : decode cX5_clear 46 = .ok (.iastore, 1) := by decide +kernel
theorem dX5_clear_47 : decode cX5_clear 47 = .ok (.aload_n 0, 1) := by decide +kernel
theorem dX5_clear_48 : decode cX5_clear 48 = .ok (.getfield 47, 3) := by decide +kernel
theorem dX5_clear_51 : decode cX5_clear 51 = .ok (.iload_n 2, 1) := by decide +kernel
theorem dX5_clear_52 : decode cX5_clear 52 = .ok (.aload_n 0, 1) := by decide +kernel
theorem dX5_clear_53 : decode cX5_clear 53 = .ok (.getfield 47, 3) := by decide +kernel
theorem dX5_clear_56 : decode cX5_clear 56 = .ok (.iload_n 3, 1) := by decide +kernel
theorem dX5_clear_57 : decode cX5_clear 57 = .ok (.iaload, 1) := by decide +kernel
theorem dX5_clear_58 : decode cX5_clear 58 = .ok (.iastore, 1) := by decide +kernel
theorem dX5_clear_59 : decode cX5_clear 59 = .ok (.aload_n 0, 1) := by decide +kernel
theorem dX5_clear_60 : decode cX5_clear 60 = .ok (.getfield 50, 3) := by decide +kernel
theorem dX5_clear_63 : decode cX5_clear 63 = .ok (.iload_n 2, 1) := by decide +kernel
theorem dX5_clear_64 : decode cX5_clear 64 = .ok (.aload_n 0, 1) := by decide +kernel
theorem dX5_clear_65 : decode cX5_clear 65 = .ok (.getfield 50, 3) := by decide +kernel
theorem dX5_clear_68 : decode cX5_clear 68 = .ok (.iload_n 3, 1) := by decide +kernel
theorem dX5_clear_69 : decode cX5_clear 69 = .ok (.iaload, 1) := by decide +kernel
theorem dX5_clear_70 : decode cX5_clear 70 = .ok (.iastore, 1) := by decide +kernel
theorem dX5_clear_71 : decode cX5_clear 71 = .ok (.iinc 2 1, 3) := by decide +kernel
theorem dX5_clear_74 : decode cX5_clear 74 = .ok (.iinc 3 1, 3) := by decide +kernel
theorem dX5_clear_77 : decode cX5_clear 77 = .ok (.goto (-60), 3) := by decide +kernel
theorem dX5_clear_80 : decode cX5_clear 80 = .ok (.aload_n 0, 1) := by decide +kernel
theorem dX5_clear_81 : decode cX5_clear 81 = .ok (.iload_n 2, 1) := by decide +kernel
theorem dX5_clear_82 : decode cX5_clear 82 = .ok (.putfield 93, 3) := by decide +kernel
theorem dX5_clear_85 : decode cX5_clear 85 = .ok (.iconst 1, 1) := by decide +kernel
theorem dX5_clear_86 : decode cX5_clear 86 = .ok (.ireturn, 1) := by decide +kernel
theorem dX5_locker_0 : decode cX5_locker 0 = .ok (.iconst 0, 1) := by decide +kernel
theorem dX5_locker_1 : decode cX5_locker 1 = .ok (.istore_n 3, 1) := by decide +kernel
theorem dX5_locker_2 : decode cX5_locker 2 = .ok (.iconst 0, 1) := by decide +kernel
theorem dX5_locker_3 : decode cX5_locker 3 = .ok (.istore 4, 2) := by decide +kernel
theorem dX5_locker_5 : decode cX5_locker 5 = .ok (.iconst 0, 1) := by decide +kernel
theorem dX5_locker_6 : decode cX5_locker 6 = .ok (.istore 5, 2) := by decide +kernel
theorem dX5_locker_8 : decode cX5_locker 8 = .ok (.iload 5, 2) := by decide +kernel
theorem dX5_locker_10 : decode cX5_locker 10 = .ok (.iload_n 2, 1) := by decide +kernel
theorem dX5_locker_11 : decode cX5_locker 11 = .ok (.if_icmp .gt 114, 3) := by decide +kernel
theorem dX5_locker_14 : decode cX5_locker 14 = .ok (.iload 5, 2) := by decide +kernel
theorem dX5_locker_16 : decode cX5_locker 16 = .ok (.ifCond .eq 7, 3) := by decide +kernel
theorem dX5_locker_19 : decode cX5_locker 19 = .ok (.iload_n 3, 1) := by decide +kernel
theorem dX5_locker_20 : decode cX5_locker 20 = .ok (.ifCond .le 105, 3) := by decide +kernel
theorem dX5_locker_23 : decode cX5_locker 23 = .ok (.iconst 0, 1) := by decide +kernel
theorem dX5_locker_24 : decode cX5_locker 24 = .ok (.istore 6, 2) := by decide +kernel
theorem dX5_locker_26 : decode cX5_locker 26 = .ok (.iconst 0, 1) := by decide +kernel
theorem dX5_locker_27 : decode cX5_locker 27 = .ok (.istore 7, 2) := by decide +kernel
theorem dX5_locker_29 : decode cX5_locker 29 = .ok (.iload 7, 2) := by decide +kernel
theorem dX5_locker_31 : decode cX5_locker 31 = .ok (.aload_n 0, 1) := by decide +kernel
theorem dX5_locker_32 : decode cX5_locker 32 = .ok (.getfield 93, 3) := by decide +kernel
end
section
theorem dX5_locker_35 : decode cX5_locker 35 = .ok (.if_icmp .ge 81, 3) := by decide +kernel
theorem dX5_locker_38 : decode cX5_locker 38 = .ok (.aload_n 0, 1) := by decide +kernel
theorem dX5_locker_39 : decode cX5_locker 39 = .ok (.getfield 44, 3) := by decide +kernel
theorem dX5_locker_42 : decode cX5_locker 42 = .ok (.iload 7, 2) := by decide +kernel
theorem dX5_locker_44 : decode cX5_locker 44 = .ok (.iaload, 1) := by decide +kernel
theorem dX5_locker_45 : decode cX5_locker 45 = .ok (.iload_n 1, 1) := by decide +kernel
theorem dX5_locker_46 : decode cX5_locker 46 = .ok (.if_icmp .ne 64, 3) := by decide +kernel
theorem dX5_locker_49 : decode cX5_locker 49 = .ok (.aload_n 0, 1) := by decide +kernel
theorem dX5_locker_50 : decode cX5_locker 50 = .ok (.getfield 16, 3) := by decide +kernel
theorem dX5_locker_53 : decode cX5_locker 53 = .ok (.aload_n 0, 1) := by decide +kernel
theorem dX5_locker_54 : decode cX5_locker 54 = .ok (.getfield 47, 3) := by decide +kernel
theorem dX5_locker_57 : decode cX5_locker 57 = .ok (.iload 7, 2) := by decide +kernel
theorem dX5_locker_59 : decode cX5_locker 59 = .ok (.iaload, 1) := by decide +kernel
theorem dX5_locker_60 : decode cX5_locker 60 = .ok (.baload, 1) := by decide +kernel
theorem dX5_locker_61 : decode cX5_locker 61 = .ok (.ifCond .eq 49, 3) := by decide +kernel
theorem dX5_locker_64 : decode cX5_locker 64 = .ok (.aload_n 0, 1) := by decide +kernel
theorem dX5_locker_65 : decode cX5_locker 65 = .ok (.getfield 47, 3) := by decide +kernel
theorem dX5_locker_68 : decode cX5_locker 68 = .ok (.iload 7, 2) := by decide +kernel
theorem dX5_locker_70 : decode cX5_locker 70 = .ok (.iaload, 1) := by decide +kernel
theorem dX5_locker_71 : decode cX5_locker 71 = .ok (.iload_n 3, 1) := by decide +kernel
theorem dX5_locker_72 : decode cX5_locker 72 = .ok (.if_icmp .le 38, 3) := by decide +kernel
theorem dX5_locker_75 : decode cX5_locker 75 = .ok (.iload 6, 2) := by decide +kernel
theorem dX5_locker_77 : decode cX5_locker 77 = .ok (.ifCond .eq 15, 3) := by decide +kernel
theorem dX5_locker_80 : decode cX5_locker 80 = .ok (.aload_n 0, 1) := by decide +kernel
theorem dX5_locker_81 : decode cX5_locker 81 = .ok (.getfield 47, 3) := by decide +kernel
theorem dX5_locker_84 : decode cX5_locker 84 = .ok (.iload 7, 2) := by decide +kernel
theorem dX5_locker_86 : decode cX5_locker 86 = .ok (.iaload, 1) := by decide +kernel
theorem dX5_locker_87 : decode cX5_locker 87 = .ok (.iload 6, 2) := by decide +kernel
theorem dX5_locker_89 : decode cX5_locker 89 = .ok (.if_icmp .ge 21, 3) := by decide +kernel
theorem dX5_locker_92 : decode cX5_locker 92 = .ok (.aload_n 0, 1) := by decide +kernel
theorem dX5_locker_93 : decode cX5_locker 93 = .ok (.getfield 47, 3) := by decide +kernel
theorem dX5_locker_96 : decode cX5_locker 96 = .ok (.iload 7, 2) := by decide +kernel
theorem dX5_locker_98 : decode cX5_locker 98 = .ok (.iaload, 1) := by decide +kernel
theorem dX5_locker_99 : decode cX5_locker 99 = .ok (.istore 6, 2) := by decide +kernel
theorem dX5_locker_101 : decode cX5_locker 101 = .ok (.aload_n 0, 1) := by decide +kernel
theorem dX5_locker_102 : decode cX5_locker 102 = .ok (.getfield 50, 3) := by decide +kernel
theorem dX5_locker_105 : decode cX5_locker 105 = .ok (.iload 7, 2) := by decide +kernel
theorem dX5_locker_107 : decode cX5_locker 107 = .ok (.iaload, 1) := by decide +kernel
theorem dX5_locker_108 : decode cX5_locker 108 = .ok (.istore 4, 2) := by decide +kernel
theorem dX5_locker_110 : decode cX5_locker 110 = .ok (.iinc 7 1, 3) := by decide +kernel
theorem dX5_locker_113 : decode cX5_locker 113 = .ok (.goto (-84), 3) := by decide +kernel
theorem dX5_locker_116 : decode cX5_locker 116 = .ok (.iload 6, 2) := by decide +kernel
theorem dX5_locker_118 : decode cX5_locker 118 = .ok (.istore_n 3, 1) := by decide +kernel
theorem dX5_locker_119 : decode cX5_locker 119 = .ok (.iinc 5 1, 3) := by decide +kernel
theorem dX5_locker_122 : decode cX5_locker 122 = .ok (.goto (-114), 3) := by decide +kernel
theorem dX5_locker_125 : decode cX5_locker 125 = .ok (.iload 4, 2) := by decide +kernel
theorem dX5_locker_127 : decode cX5_locker 127 = .ok (.iconst 1, 1) := by decide +kernel
theorem dX5_locker_128 : decode cX5_locker 128 = .ok (.if_icmp .ne 8, 3) := by decide +kernel
theorem dX5_locker_131 : decode cX5_locker 131 = .ok (.iload_n 3, 1) := by decide +kernel
theorem dX5_locker_132 : decode cX5_locker 132 = .ok (.ineg, 1) := by decide +kernel
theorem dX5_locker_133 : decode cX5_locker 133 = .ok (.goto 4, 3) := by decide +kernel
theorem dX5_locker_136 : decode cX5_locker 136 = .ok (.iload_n 3, 1) := by decide +kernel
theorem dX5_locker_137 : decode cX5_locker 137 = .ok (.ireturn, 1) := by decide +kernel
set_option maxRecDepth 20000 in
theorem ggX5_await_X5_isSession : GoodIn wsX5_await wsX5_isSession := goodIn_r _ [9, 10, 11, 8, 12] (by decide +kernel) (by decide +kernel)
set_option maxRecDepth 20000 in
theorem gX5_await_X5_isSession : GoodIn wsX5_await (va_wsS RX5 61 yX5_isSession wsX5_isSession) := goodIn_app (goodIn_of _ (by decide +kernel)) ggX5_await_X5_isSession
set_option maxRecDepth 20000 in
theorem ggX5_await_X5_in : GoodIn wsX5_await wsX5_in := goodIn_r _ [12] (by decide +kernel) (by decide +kernel)
set_option maxRecDepth 20000 in
theorem gX5_await_X5_in : GoodIn wsX5_await (va_wsS RX5 53 yX5_in wsX5_in) := goodIn_app (goodIn_of _ (by decide +kernel)) ggX5_await_X5_in
set_option maxRecDepth 20000 in
theorem ggX5_await_X5_leads : GoodIn wsX5_await wsX5_leads := goodIn_r _ [16, 17, 18, 19, 8, 20, 2, 3, 5, 4, 21, 22, 23, 24, 25, 26, 27, 28, 29, 30, 31, 32, 33, 34, 35, 36, 37, 38, 44, 45, 46, 47, 48, 49, 50, 51, 52, 53, 54, 55, 56, 57, 58, 59, 60] (by decide +kernel) (by decide +kernel)
set_option maxRecDepth 20000 in
theorem gX5_await_X5_leads : GoodIn wsX5_await (wsV RX5 86 RX5 yX5_leads wsX5_leads) := goodIn_app (goodIn_of _ (by decide +kernel)) ggX5_await_X5_leads
set_option maxRecDepth 20000 in
theorem ggX5_await_X5_begin : GoodIn wsX5_await wsX5_begin := goodIn_r _ [42, 2, 43, 24, 44, 45, 46, 47, 48, 49, 50, 51, 52, 53, 54, 55, 56, 57, 58, 59, 60] (by decide +kernel) (by decide +kernel)
set_option maxRecDepth 20000 in
theorem gX5_await_X5_begin : GoodIn wsX5_await (wsV RX5 89 RX5 yX5_begin wsX5_begin) := goodIn_app (goodIn_of _ (by decide +kernel)) ggX5_await_X5_begin
theorem dX5_await_0 : decode cX5_await 0 = .ok (.iload_n 1, 1) := by decide +kernel
theorem dX5_await_1 : decode cX5_await 1 = .ok (.invokestatic 61, 3) := by decide +kernel
theorem dX5_await_4 : decode cX5_await 4 = .ok (.ifCond .eq 24, 3) := by decide +kernel
theorem dX5_await_7 : decode cX5_await 7 = .ok (.iload_n 2, 1) := by decide +kernel
theorem dX5_await_8 : decode cX5_await 8 = .ok (.iconst 1, 1) := by decide +kernel
theorem dX5_await_9 : decode cX5_await 9 = .ok (.aload_n 0, 1) := by decide +kernel
theorem dX5_await_10 : decode cX5_await 10 = .ok (.getfield 57, 3) := by decide +kernel
theorem dX5_await_13 : decode cX5_await 13 = .ok (.invokestatic 53, 3) := by decide +kernel
theorem dX5_await_16 : decode cX5_await 16 = .ok (.ifCond .eq 12, 3) := by decide +kernel
theorem dX5_await_19 : decode cX5_await 19 = .ok (.aload_n 0, 1) := by decide +kernel
theorem dX5_await_20 : decode cX5_await 20 = .ok (.getfield 23, 3) := by decide +kernel
theorem dX5_await_23 : decode cX5_await 23 = .ok (.iload_n 1, 1) := by decide +kernel
theorem dX5_await_24 : decode cX5_await 24 = .ok (.iaload, 1) := by decide +kernel
theorem dX5_await_25 : decode cX5_await 25 = .ok (.ifCond .eq 5, 3) := by decide +kernel
theorem dX5_await_28 : decode cX5_await 28 = .ok (.iconst (-1), 1) := by decide +kernel
theorem dX5_await_29 : decode cX5_await 29 = .ok (.ireturn, 1) := by decide +kernel
theorem dX5_await_30 : decode cX5_await 30 = .ok (.aload_n 0, 1) := by decide +kernel
theorem dX5_await_31 : decode cX5_await 31 = .ok (.getfield 16, 3) := by decide +kernel
theorem dX5_await_34 : decode cX5_await 34 = .ok (.iload_n 2, 1) := by decide +kernel
theorem dX5_await_35 : decode cX5_await 35 = .ok (.baload, 1) := by decide +kernel
theorem dX5_await_36 : decode cX5_await 36 = .ok (.ifCond .ne 5, 3) := by decide +kernel
theorem dX5_await_39 : decode cX5_await 39 = .ok (.iconst 0, 1) := by decide +kernel
theorem dX5_await_40 : decode cX5_await 40 = .ok (.ireturn, 1) := by decide +kernel
theorem dX5_await_41 : decode cX5_await 41 = .ok (.aload_n 0, 1) := by decide +kernel
theorem dX5_await_42 : decode cX5_await 42 = .ok (.iconst 1, 1) := by decide +kernel
theorem dX5_await_43 : decode cX5_await 43 = .ok (.aload_n 0, 1) := by decide +kernel
theorem dX5_await_44 : decode cX5_await 44 = .ok (.getfield 13, 3) := by decide +kernel
theorem dX5_await_47 : decode cX5_await 47 = .ok (.iload_n 2, 1) := by decide +kernel
theorem dX5_await_48 : decode cX5_await 48 = .ok (.iaload, 1) := by decide +kernel
theorem dX5_await_49 : decode cX5_await 49 = .ok (.ishl, 1) := by decide +kernel
theorem dX5_await_50 : decode cX5_await 50 = .ok (.iload_n 1, 1) := by decide +kernel
theorem dX5_await_51 : decode cX5_await 51 = .ok (.invokevirtual 86, 3) := by decide +kernel
theorem dX5_await_54 : decode cX5_await 54 = .ok (.ifCond .eq 5, 3) := by decide +kernel
theorem dX5_await_57 : decode cX5_await 57 = .ok (.iconst 2, 1) := by decide +kernel
theorem dX5_await_58 : decode cX5_await 58 = .ok (.ireturn, 1) := by decide +kernel
theorem dX5_await_59 : decode cX5_await 59 = .ok (.aload_n 0, 1) := by decide +kernel
theorem dX5_await_60 : decode cX5_await 60 = .ok (.getfield 38, 3) := by decide +kernel
theorem dX5_await_63 : decode cX5_await 63 = .ok (.iload_n 1, 1) := by decide +kernel
theorem dX5_await_64 : decode cX5_await 64 = .ok (.iload_n 2, 1) := by decide +kernel
theorem dX5_await_65 : decode cX5_await 65 = .ok (.iastore, 1) := by decide +kernel
theorem dX5_await_66 : decode cX5_await 66 = .ok (.aload_n 0, 1) := by decide +kernel
theorem dX5_await_67 : decode cX5_await 67 = .ok (.iload_n 1, 1) := by decide +kernel
theorem dX5_await_68 : decode cX5_await 68 = .ok (.iconst 2, 1) := by decide +kernel
theorem dX5_await_69 : decode cX5_await 69 = .ok (.invokevirtual 89, 3) := by decide +kernel
theorem dX5_await_72 : decode cX5_await 72 = .ok (.iconst 1, 1) := by decide +kernel
theorem dX5_await_73 : decode cX5_await 73 = .ok (.ireturn, 1) := by decide +kernel
theorem dX5_waiting_0 : decode cX5_waiting 0 = .ok (.iconst 0, 1) := by decide +kernel
theorem dX5_waiting_1 : decode cX5_waiting 1 = .ok (.istore_n 2, 1) := by decide +kernel
theorem dX5_waiting_2 : decode cX5_waiting 2 = .ok (.iconst (-1), 1) := by decide +kernel
theorem dX5_waiting_3 : decode cX5_waiting 3 = .ok (.istore_n 3, 1) := by decide +kernel
theorem dX5_waiting_4 : decode cX5_waiting 4 = .ok (.iconst 0, 1) := by decide +kernel
theorem dX5_waiting_5 : decode cX5_waiting 5 = .ok (.istore 4, 2) := by decide +kernel
theorem dX5_waiting_7 : decode cX5_waiting 7 = .ok (.iload 4, 2) := by decide +kernel
theorem dX5_waiting_9 : decode cX5_waiting 9 = .ok (.iload_n 1, 1) := by decide +kernel
theorem dX5_waiting_10 : decode cX5_waiting 10 = .ok (.if_icmp .gt 99, 3) := by decide +kernel
theorem dX5_waiting_13 : decode cX5_waiting 13 = .ok (.iload 4, 2) := by decide +kernel
theorem dX5_waiting_15 : decode cX5_waiting 15 = .ok (.ifCond .eq 7, 3) := by decide +kernel
theorem dX5_waiting_18 : decode cX5_waiting 18 = .ok (.iload_n 3, 1) := by decide +kernel
theorem dX5_waiting_19 : decode cX5_waiting 19 = .ok (.ifCond .lt 90, 3) := by decide +kernel
theorem dX5_waiting_22 : decode cX5_waiting 22 = .ok (.iconst (-1), 1) := by decide +kernel
theorem dX5_waiting_23 : decode cX5_waiting 23 = .ok (.istore_n 3, 1) := by decide +kernel
theorem dX5_waiting_24 : decode cX5_waiting 24 = .ok (.iconst 0, 1) := by decide +kernel
theorem dX5_waiting_25 : decode cX5_waiting 25 = .ok (.istore 5, 2) := by decide +kernel
theorem dX5_waiting_27 : decode cX5_waiting 27 = .ok (.iload 5, 2) := by decide +kernel
theorem dX5_waiting_29 : decode cX5_waiting 29 = .ok (.bipush 6, 2) := by decide +kernel
theorem dX5_waiting_31 : decode cX5_waiting 31 = .ok (.if_icmp .ge 57, 3) := by decide +kernel
theorem dX5_waiting_34 : decode cX5_waiting 34 = .ok (.aload_n 0, 1) := by decide +kernel
theorem dX5_waiting_35 : decode cX5_waiting 35 = .ok (.getfield 23, 3) := by decide +kernel
theorem dX5_waiting_38 : decode cX5_waiting 38 = .ok (.iload 5, 2) := by decide +kernel
theorem dX5_waiting_40 : decode cX5_waiting 40 = .ok (.iaload, 1) := by decide +kernel
theorem dX5_waiting_41 : decode cX5_waiting 41 = .ok (.ifCond .eq 39, 3) := by decide +kernel
theorem dX5_waiting_44 : decode cX5_waiting 44 = .ok (.aload_n 0, 1) := by decide +kernel
theorem dX5_waiting_45 : decode cX5_waiting 45 = .ok (.getfield 41, 3) := by decide +kernel
theorem dX5_waiting_48 : decode cX5_waiting 48 = .ok (.iload 5, 2) := by decide +kernel
theorem dX5_waiting_50 : decode cX5_waiting 50 = .ok (.iaload, 1) := by decide +kernel
theorem dX5_waiting_51 : decode cX5_waiting 51 = .ok (.iload_n 2, 1) := by decide +kernel
theorem dX5_waiting_52 : decode cX5_waiting 52 = .ok (.if_icmp .le 28, 3) := by decide +kernel
theorem dX5_waiting_55 : decode cX5_waiting 55 = .ok (.iload_n 3, 1) := by decide +kernel
theorem dX5_waiting_56 : decode cX5_waiting 56 = .ok (.ifCond .lt 19, 3) := by decide +kernel
theorem dX5_waiting_59 : decode cX5_waiting 59 = .ok (.aload_n 0, 1) := by decide +kernel
theorem dX5_waiting_60 : decode cX5_waiting 60 = .ok (.getfield 41, 3) := by decide +kernel
theorem dX5_waiting_63 : decode cX5_waiting 63 = .ok (.iload 5, 2) := by decide +kernel
theorem dX5_waiting_65 : decode cX5_waiting 65 = .ok (.iaload, 1) := by decide +kernel
theorem dX5_waiting_66 : decode cX5_waiting 66 = .ok (.aload_n 0, 1) := by decide +kernel
theorem dX5_waiting_67 : decode cX5_waiting 67 = .ok (.getfield 41, 3) := by decide +kernel
theorem dX5_waiting_70 : decode cX5_waiting 70 = .ok (.iload_n 3, 1) := by decide +kernel
theorem dX5_waiting_71 : decode cX5_waiting 71 = .ok (.iaload, 1) := by decide +kernel
theorem dX5_waiting_72 : decode cX5_waiting 72 = .ok (.if_icmp .ge 8, 3) := by decide +kernel
theorem dX5_waiting_75 : decode cX5_waiting 75 = .ok (.iload 5, 2) := by decide +kernel
theorem dX5_waiting_77 : decode cX5_waiting 77 = .ok (.goto 4, 3) := by decide +kernel
theorem dX5_waiting_80 : decode cX5_waiting 80 = .ok (.iload_n 3, 1) := by decide +kernel
theorem dX5_waiting_81 : decode cX5_waiting 81 = .ok (.istore_n 3, 1) := by decide +kernel
theorem dX5_waiting_82 : decode cX5_waiting 82 = .ok (.iinc 5 1, 3) := by decide +kernel
theorem dX5_waiting_85 : decode cX5_waiting 85 = .ok (.goto (-58), 3) := by decide +kernel
theorem dX5_waiting_88 : decode cX5_waiting 88 = .ok (.iload_n 3, 1) := by decide +kernel
theorem dX5_waiting_89 : decode cX5_waiting 89 = .ok (.ifCond .ge 7, 3) := by decide +kernel
theorem dX5_waiting_92 : decode cX5_waiting 92 = .ok (.iload_n 2, 1) := by decide +kernel
theorem dX5_waiting_93 : decode cX5_waiting 93 = .ok (.goto 9, 3) := by decide +kernel
theorem dX5_waiting_96 : decode cX5_waiting 96 = .ok (.aload_n 0, 1) := by decide +kernel
theorem dX5_waiting_97 : decode cX5_waiting 97 = .ok (.getfield 41, 3) := by decide +kernel
theorem dX5_waiting_100 : decode cX5_waiting 100 = .ok (.iload_n 3, 1) := by decide +kernel
theorem dX5_waiting_101 : decode cX5_waiting 101 = .ok (.iaload, 1) := by decide +kernel
theorem dX5_waiting_102 : decode cX5_waiting 102 = .ok (.istore_n 2, 1) := by decide +kernel
theorem dX5_waiting_103 : decode cX5_waiting 103 = .ok (.iinc 4 1, 3) := by decide +kernel
theorem dX5_waiting_106 : decode cX5_waiting 106 = .ok (.goto (-99), 3) := by decide +kernel
theorem dX5_waiting_109 : decode cX5_waiting 109 = .ok (.iload_n 3, 1) := by decide +kernel
theorem dX5_waiting_110 : decode cX5_waiting 110 = .ok (.ireturn, 1) := by decide +kernel
set_option maxRecDepth 20000 in
theorem ggX5_next_X5_waiting : GoodIn wsX5_next wsX5_waiting := goodIn_r _ [11, 1, 12, 33, 34, 35, 36, 37, 38, 39, 40, 41, 42, 43, 44, 45, 46, 47, 48, 49] (by decide +kernel) (by decide +kernel)
set_option maxRecDepth 20000 in
theorem gX5_next_X5_waiting : GoodIn wsX5_next (wsV RX5 99 RX5 yX5_waiting wsX5_waiting) := goodIn_app (goodIn_of _ (by decide +kernel)) ggX5_next_X5_waiting
set_option maxRecDepth 20000 in
theorem ggX5_next_X5_waitsOn : GoodIn wsX5_next wsX5_waitsOn := goodIn_r _ [16, 1, 17, 18, 19, 2, 4, 5, 12, 20, 21, 22, 10, 23, 24, 25, 26, 27, 28, 29, 30, 31, 32, 3, 33, 34, 35, 36, 37, 38, 39, 40, 41, 42, 43, 44, 45, 46, 47, 48, 49] (by decide +kernel) (by decide +kernel)
set_option maxRecDepth 20000 in
theorem gX5_next_X5_waitsOn : GoodIn wsX5_next (wsV RX5 79 RX5 yX5_waitsOn wsX5_waitsOn) := goodIn_app (goodIn_of _ (by decide +kernel)) ggX5_next_X5_waitsOn
theorem dX5_next_0 : decode cX5_next 0 = .ok (.iconst 0, 1) := by decide +kernel
theorem dX5_next_1 : decode cX5_next 1 = .ok (.istore_n 1, 1) := by decide +kernel
theorem dX5_next_2 : decode cX5_next 2 = .ok (.iload_n 1, 1) := by decide +kernel
theorem dX5_next_3 : decode cX5_next 3 = .ok (.bipush 6, 2) := by decide +kernel
theorem dX5_next_5 : decode cX5_next 5 = .ok (.if_icmp .ge 120, 3) := by decide +kernel
theorem dX5_next_8 : decode cX5_next 8 = .ok (.aload_n 0, 1) := by decide +kernel
theorem dX5_next_9 : decode cX5_next 9 = .ok (.iload_n 1, 1) := by decide +kernel
theorem dX5_next_10 : decode cX5_next 10 = .ok (.invokevirtual 99, 3) := by decide +kernel
theorem dX5_next_13 : decode cX5_next 13 = .ok (.istore_n 2, 1) := by decide +kernel
theorem dX5_next_14 : decode cX5_next 14 = .ok (.iload_n 2, 1) := by decide +kernel
theorem dX5_next_15 : decode cX5_next 15 = .ok (.ifCond .lt 104, 3) := by decide +kernel
theorem dX5_next_18 : decode cX5_next 18 = .ok (.aload_n 0, 1) := by decide +kernel
theorem dX5_next_19 : decode cX5_next 19 = .ok (.iload_n 2, 1) := by decide +kernel
theorem dX5_next_20 : decode cX5_next 20 = .ok (.invokevirtual 79, 3) := by decide +kernel
theorem dX5_next_23 : decode cX5_next 23 = .ok (.ifCond .ne 96, 3) := by decide +kernel
theorem dX5_next_26 : decode cX5_next 26 = .ok (.aload_n 0, 1) := by decide +kernel
theorem dX5_next_27 : decode cX5_next 27 = .ok (.getfield 23, 3) := by decide +kernel
theorem dX5_next_30 : decode cX5_next 30 = .ok (.iload_n 2, 1) := by decide +kernel
theorem dX5_next_31 : decode cX5_next 31 = .ok (.iaload, 1) := by decide +kernel
theorem dX5_next_32 : decode cX5_next 32 = .ok (.iconst 1, 1) := by decide +kernel
theorem dX5_next_33 : decode cX5_next 33 = .ok (.if_icmp .ne 16, 3) := by decide +kernel
theorem dX5_next_36 : decode cX5_next 36 = .ok (.aload_n 0, 1) := by decide +kernel
theorem dX5_next_37 : decode cX5_next 37 = .ok (.getfield 35, 3) := by decide +kernel
theorem dX5_next_40 : decode cX5_next 40 = .ok (.iload_n 2, 1) := by decide +kernel
theorem dX5_next_41 : decode cX5_next 41 = .ok (.baload, 1) := by decide +kernel
theorem dX5_next_42 : decode cX5_next 42 = .ok (.ifCond .eq 7, 3) := by decide +kernel
theorem dX5_next_45 : decode cX5_next 45 = .ok (.iconst 1, 1) := by decide +kernel
theorem dX5_next_46 : decode cX5_next 46 = .ok (.goto 4, 3) := by decide +kernel
theorem dX5_next_49 : decode cX5_next 49 = .ok (.iconst 0, 1) := by decide +kernel
theorem dX5_next_50 : decode cX5_next 50 = .ok (.istore_n 3, 1) := by decide +kernel
theorem dX5_next_51 : decode cX5_next 51 = .ok (.aload_n 0, 1) := by decide +kernel
theorem dX5_next_52 : decode cX5_next 52 = .ok (.getfield 23, 3) := by decide +kernel
theorem dX5_next_55 : decode cX5_next 55 = .ok (.iload_n 2, 1) := by decide +kernel
theorem dX5_next_56 : decode cX5_next 56 = .ok (.iaload, 1) := by decide +kernel
theorem dX5_next_57 : decode cX5_next 57 = .ok (.iconst 1, 1) := by decide +kernel
theorem dX5_next_58 : decode cX5_next 58 = .ok (.if_icmp .ne 41, 3) := by decide +kernel
theorem dX5_next_61 : decode cX5_next 61 = .ok (.iload_n 3, 1) := by decide +kernel
theorem dX5_next_62 : decode cX5_next 62 = .ok (.ifCond .ne 37, 3) := by decide +kernel
theorem dX5_next_65 : decode cX5_next 65 = .ok (.aload_n 0, 1) := by decide +kernel
theorem dX5_next_66 : decode cX5_next 66 = .ok (.getfield 20, 3) := by decide +kernel
theorem dX5_next_69 : decode cX5_next 69 = .ok (.bipush 72, 2) := by decide +kernel
theorem dX5_next_71 : decode cX5_next 71 = .ok (.iload_n 2, 1) := by decide +kernel
theorem dX5_next_72 : decode cX5_next 72 = .ok (.imul, 1) := by decide +kernel
theorem dX5_next_73 : decode cX5_next 73 = .ok (.bipush 9, 2) := by decide +kernel
theorem dX5_next_75 : decode cX5_next 75 = .ok (.aload_n 0, 1) := by decide +kernel
theorem dX5_next_76 : decode cX5_next 76 = .ok (.getfield 26, 3) := by decide +kernel
theorem dX5_next_79 : decode cX5_next 79 = .ok (.iload_n 2, 1) := by decide +kernel
theorem dX5_next_80 : decode cX5_next 80 = .ok (.iaload, 1) := by decide +kernel
theorem dX5_next_81 : decode cX5_next 81 = .ok (.imul, 1) := by decide +kernel
theorem dX5_next_82 : decode cX5_next 82 = .ok (.iadd, 1) := by decide +kernel
theorem dX5_next_83 : decode cX5_next 83 = .ok (.aload_n 0, 1) := by decide +kernel
theorem dX5_next_84 : decode cX5_next 84 = .ok (.getfield 29, 3) := by decide +kernel
theorem dX5_next_87 : decode cX5_next 87 = .ok (.iload_n 2, 1) := by decide +kernel
theorem dX5_next_88 : decode cX5_next 88 = .ok (.iaload, 1) := by decide +kernel
theorem dX5_next_89 : decode cX5_next 89 = .ok (.iadd, 1) := by decide +kernel
theorem dX5_next_90 : decode cX5_next 90 = .ok (.aload_n 0, 1) := by decide +kernel
theorem dX5_next_91 : decode cX5_next 91 = .ok (.getfield 32, 3) := by decide +kernel
theorem dX5_next_94 : decode cX5_next 94 = .ok (.iload_n 2, 1) := by decide +kernel
theorem dX5_next_95 : decode cX5_next 95 = .ok (.iaload, 1) := by decide +kernel
theorem dX5_next_96 : decode cX5_next 96 = .ok (.iconst 1, 1) := by decide +kernel
theorem dX5_next_97 : decode cX5_next 97 = .ok (.iadd, 1) := by decide +kernel
theorem dX5_next_98 : decode cX5_next 98 = .ok (.iastore, 1) := by decide +kernel
theorem dX5_next_99 : decode cX5_next 99 = .ok (.aload_n 0, 1) := by decide +kernel
theorem dX5_next_100 : decode cX5_next 100 = .ok (.getfield 23, 3) := by decide +kernel
theorem dX5_next_103 : decode cX5_next 103 = .ok (.iload_n 2, 1) := by decide +kernel
theorem dX5_next_104 : decode cX5_next 104 = .ok (.iconst 0, 1) := by decide +kernel
theorem dX5_next_105 : decode cX5_next 105 = .ok (.iastore, 1) := by decide +kernel
theorem dX5_next_106 : decode cX5_next 106 = .ok (.iload_n 3, 1) := by decide +kernel
theorem dX5_next_107 : decode cX5_next 107 = .ok (.ifCond .eq 10, 3) := by decide +kernel
theorem dX5_next_110 : decode cX5_next 110 = .ok (.iload_n 2, 1) := by decide +kernel
theorem dX5_next_111 : decode cX5_next 111 = .ok (.bipush 8, 2) := by decide +kernel
theorem dX5_next_113 : decode cX5_next 113 = .ok (.iadd, 1) := by decide +kernel
theorem dX5_next_114 : decode cX5_next 114 = .ok (.goto 4, 3) := by decide +kernel
theorem dX5_next_117 : decode cX5_next 117 = .ok (.iload_n 2, 1) := by decide +kernel
theorem dX5_next_118 : decode cX5_next 118 = .ok (.ireturn, 1) := by decide +kernel
theorem dX5_next_119 : decode cX5_next 119 = .ok (.iinc 1 1, 3) := by decide +kernel
theorem dX5_next_122 : decode cX5_next 122 = .ok (.goto (-120), 3) := by decide +kernel
theorem dX5_next_125 : decode cX5_next 125 = .ok (.iconst (-1), 1) := by decide +kernel
theorem dX5_next_126 : decode cX5_next 126 = .ok (.ireturn, 1) := by decide +kernel
set_option maxRecDepth 20000 in
theorem ggX5_cancel_X5_isSession : GoodIn wsX5_cancel wsX5_isSession := goodIn_r _ [5, 6, 7, 4, 8] (by decide +kernel) (by decide +kernel)
set_option maxRecDepth 20000 in
theorem gX5_cancel_X5_isSession : GoodIn wsX5_cancel (va_wsS RX5 61 yX5_isSession wsX5_isSession) := goodIn_app (goodIn_of _ (by decide +kernel)) ggX5_cancel_X5_isSession
theorem dX5_cancel_0 : decode cX5_cancel 0 = .ok (.iload_n 1, 1) := by decide +kernel
theorem dX5_cancel_1 : decode cX5_cancel 1 = .ok (.invokestatic 61, 3) := by decide +kernel
theorem dX5_cancel_4 : decode cX5_cancel 4 = .ok (.ifCond .eq 16, 3) := by decide +kernel
theorem dX5_cancel_7 : decode cX5_cancel 7 = .ok (.aload_n 0, 1) := by decide +kernel
theorem dX5_cancel_8 : decode cX5_cancel 8 = .ok (.getfield 23, 3) := by decide +kernel
theorem dX5_cancel_11 : decode cX5_cancel 11 = .ok (.iload_n 1, 1) := by decide +kernel
theorem dX5_cancel_12 : decode cX5_cancel 12 = .ok (.iaload, 1) := by decide +kernel
theorem dX5_cancel_13 : decode cX5_cancel 13 = .ok (.ifCond .eq 7, 3) := by decide +kernel
theorem dX5_cancel_16 : decode cX5_cancel 16 = .ok (.iconst 1, 1) := by decide +kernel
theorem dX5_cancel_17 : decode cX5_cancel 17 = .ok (.goto 4, 3) := by decide +kernel
theorem dX5_cancel_20 : decode cX5_cancel 20 = .ok (.iconst 0, 1) := by decide +kernel
theorem dX5_cancel_21 : decode cX5_cancel 21 = .ok (.istore_n 2, 1) := by decide +kernel
theorem dX5_cancel_22 : decode cX5_cancel 22 = .ok (.iload_n 2, 1) := by decide +kernel
theorem dX5_cancel_23 : decode cX5_cancel 23 = .ok (.ifCond .eq 10, 3) := by decide +kernel
theorem dX5_cancel_26 : decode cX5_cancel 26 = .ok (.aload_n 0, 1) := by decide +kernel
theorem dX5_cancel_27 : decode cX5_cancel 27 = .ok (.getfield 23, 3) := by decide +kernel
theorem dX5_cancel_30 : decode cX5_cancel 30 = .ok (.iload_n 1, 1) := by decide +kernel
theorem dX5_cancel_31 : decode cX5_cancel 31 = .ok (.iconst 0, 1) := by decide +kernel
theorem dX5_cancel_32 : decode cX5_cancel 32 = .ok (.iastore, 1) := by decide +kernel
theorem dX5_cancel_33 : decode cX5_cancel 33 = .ok (.iload_n 2, 1) := by decide +kernel
theorem dX5_cancel_34 : decode cX5_cancel 34 = .ok (.ireturn, 1) := by decide +kernel
set_option maxRecDepth 20000 in
theorem ggX5_end_X5_isSession : GoodIn wsX5_end wsX5_isSession := goodIn_r _ [5, 6, 7, 4, 8] (by decide +kernel) (by decide +kernel)
set_option maxRecDepth 20000 in
theorem gX5_end_X5_isSession : GoodIn wsX5_end (va_wsS RX5 61 yX5_isSession wsX5_isSession) := goodIn_app (goodIn_of _ (by decide +kernel)) ggX5_end_X5_isSession
set_option maxRecDepth 20000 in
theorem ggX5_end_X5_in : GoodIn wsX5_end wsX5_in := goodIn_r _ [8] (by decide +kernel) (by decide +kernel)
set_option maxRecDepth 20000 in
theorem gX5_end_X5_in : GoodIn wsX5_end (va_wsS RX5 53 yX5_in wsX5_in) := goodIn_app (goodIn_of _ (by decide +kernel)) ggX5_end_X5_in
theorem dX5_end_0 : decode cX5_end 0 = .ok (.iload_n 1, 1) := by decide +kernel
theorem dX5_end_1 : decode cX5_end 1 = .ok (.invokestatic 61, 3) := by decide +kernel
theorem dX5_end_4 : decode cX5_end 4 = .ok (.ifCond .eq 13, 3) := by decide +kernel
theorem dX5_end_7 : decode cX5_end 7 = .ok (.iload_n 2, 1) := by decide +kernel
theorem dX5_end_8 : decode cX5_end 8 = .ok (.iconst 0, 1) := by decide +kernel
theorem dX5_end_9 : decode cX5_end 9 = .ok (.bipush 7, 2) := by decide +kernel
theorem dX5_end_11 : decode cX5_end 11 = .ok (.invokestatic 53, 3) := by decide +kernel
theorem dX5_end_14 : decode cX5_end 14 = .ok (.ifCond .ne 5, 3) := by decide +kernel
theorem dX5_end_17 : decode cX5_end 17 = .ok (.iconst 0, 1) := by decide +kernel
theorem dX5_end_18 : decode cX5_end 18 = .ok (.ireturn, 1) := by decide +kernel
theorem dX5_end_19 : decode cX5_end 19 = .ok (.bipush 72, 2) := by decide +kernel
theorem dX5_end_21 : decode cX5_end 21 = .ok (.iload_n 1, 1) := by decide +kernel
theorem dX5_end_22 : decode cX5_end 22 = .ok (.imul, 1) := by decide +kernel
theorem dX5_end_23 : decode cX5_end 23 = .ok (.istore_n 3, 1) := by decide +kernel
theorem dX5_end_24 : decode cX5_end 24 = .ok (.iload_n 3, 1) := by decide +kernel
theorem dX5_end_25 : decode cX5_end 25 = .ok (.bipush 72, 2) := by decide +kernel
theorem dX5_end_27 : decode cX5_end 27 = .ok (.iload_n 1, 1) := by decide +kernel
theorem dX5_end_28 : decode cX5_end 28 = .ok (.imul, 1) := by decide +kernel
theorem dX5_end_29 : decode cX5_end 29 = .ok (.bipush 72, 2) := by decide +kernel
theorem dX5_end_31 : decode cX5_end 31 = .ok (.iadd, 1) := by decide +kernel
theorem dX5_end_32 : decode cX5_end 32 = .ok (.if_icmp .ge 35, 3) := by decide +kernel
theorem dX5_end_35 : decode cX5_end 35 = .ok (.aload_n 0, 1) := by decide +kernel
end
section
theorem dX5_end_36 : decode cX5_end 36 = .ok (.getfield 20, 3) := by decide +kernel
theorem dX5_end_39 : decode cX5_end 39 = .ok (.iload_n 3, 1) := by decide +kernel
theorem dX5_end_40 : decode cX5_end 40 = .ok (.aload_n 0, 1) := by decide +kernel
theorem dX5_end_41 : decode cX5_end 41 = .ok (.getfield 20, 3) := by decide +kernel
theorem dX5_end_44 : decode cX5_end 44 = .ok (.iload_n 3, 1) := by decide +kernel
theorem dX5_end_45 : decode cX5_end 45 = .ok (.iaload, 1) := by decide +kernel
theorem dX5_end_46 : decode cX5_end 46 = .ok (.iload_n 2, 1) := by decide +kernel
theorem dX5_end_47 : decode cX5_end 47 = .ok (.if_icmp .le 7, 3) := by decide +kernel
theorem dX5_end_50 : decode cX5_end 50 = .ok (.iconst 0, 1) := by decide +kernel
theorem dX5_end_51 : decode cX5_end 51 = .ok (.goto 9, 3) := by decide +kernel
theorem dX5_end_54 : decode cX5_end 54 = .ok (.aload_n 0, 1) := by decide +kernel
theorem dX5_end_55 : decode cX5_end 55 = .ok (.getfield 20, 3) := by decide +kernel
theorem dX5_end_58 : decode cX5_end 58 = .ok (.iload_n 3, 1) := by decide +kernel
theorem dX5_end_59 : decode cX5_end 59 = .ok (.iaload, 1) := by decide +kernel
theorem dX5_end_60 : decode cX5_end 60 = .ok (.iastore, 1) := by decide +kernel
theorem dX5_end_61 : decode cX5_end 61 = .ok (.iinc 3 1, 3) := by decide +kernel
theorem dX5_end_64 : decode cX5_end 64 = .ok (.goto (-40), 3) := by decide +kernel
theorem dX5_end_67 : decode cX5_end 67 = .ok (.iconst 1, 1) := by decide +kernel
theorem dX5_end_68 : decode cX5_end 68 = .ok (.ireturn, 1) := by decide +kernel
set_option maxRecDepth 20000 in
theorem ggX5_release_X5_isSession : GoodIn wsX5_release wsX5_isSession := goodIn_r _ [6, 7, 8, 5, 9] (by decide +kernel) (by decide +kernel)
set_option maxRecDepth 20000 in
theorem gX5_release_X5_isSession : GoodIn wsX5_release (va_wsS RX5 61 yX5_isSession wsX5_isSession) := goodIn_app (goodIn_of _ (by decide +kernel)) ggX5_release_X5_isSession
set_option maxRecDepth 20000 in
theorem ggX5_release_X5_in : GoodIn wsX5_release wsX5_in := goodIn_r _ [9] (by decide +kernel) (by decide +kernel)
set_option maxRecDepth 20000 in
theorem gX5_release_X5_in : GoodIn wsX5_release (va_wsS RX5 53 yX5_in wsX5_in) := goodIn_app (goodIn_of _ (by decide +kernel)) ggX5_release_X5_in
theorem dX5_release_0 : decode cX5_release 0 = .ok (.iload_n 1, 1) := by decide +kernel
theorem dX5_release_1 : decode cX5_release 1 = .ok (.invokestatic 61, 3) := by decide +kernel
theorem dX5_release_4 : decode cX5_release 4 = .ok (.ifCond .eq 13, 3) := by decide +kernel
theorem dX5_release_7 : decode cX5_release 7 = .ok (.iload_n 2, 1) := by decide +kernel
theorem dX5_release_8 : decode cX5_release 8 = .ok (.iconst 1, 1) := by decide +kernel
theorem dX5_release_9 : decode cX5_release 9 = .ok (.bipush 7, 2) := by decide +kernel
theorem dX5_release_11 : decode cX5_release 11 = .ok (.invokestatic 53, 3) := by decide +kernel
theorem dX5_release_14 : decode cX5_release 14 = .ok (.ifCond .ne 5, 3) := by decide +kernel
theorem dX5_release_17 : decode cX5_release 17 = .ok (.iconst 0, 1) := by decide +kernel
theorem dX5_release_18 : decode cX5_release 18 = .ok (.ireturn, 1) := by decide +kernel
theorem dX5_release_19 : decode cX5_release 19 = .ok (.bipush 72, 2) := by decide +kernel
theorem dX5_release_21 : decode cX5_release 21 = .ok (.iload_n 1, 1) := by decide +kernel
theorem dX5_release_22 : decode cX5_release 22 = .ok (.imul, 1) := by decide +kernel
theorem dX5_release_23 : decode cX5_release 23 = .ok (.istore_n 3, 1) := by decide +kernel
theorem dX5_release_24 : decode cX5_release 24 = .ok (.iload_n 3, 1) := by decide +kernel
theorem dX5_release_25 : decode cX5_release 25 = .ok (.bipush 72, 2) := by decide +kernel
theorem dX5_release_27 : decode cX5_release 27 = .ok (.iload_n 1, 1) := by decide +kernel
theorem dX5_release_28 : decode cX5_release 28 = .ok (.imul, 1) := by decide +kernel
theorem dX5_release_29 : decode cX5_release 29 = .ok (.bipush 72, 2) := by decide +kernel
theorem dX5_release_31 : decode cX5_release 31 = .ok (.iadd, 1) := by decide +kernel
theorem dX5_release_32 : decode cX5_release 32 = .ok (.if_icmp .ge 35, 3) := by decide +kernel
theorem dX5_release_35 : decode cX5_release 35 = .ok (.aload_n 0, 1) := by decide +kernel
theorem dX5_release_36 : decode cX5_release 36 = .ok (.getfield 20, 3) := by decide +kernel
theorem dX5_release_39 : decode cX5_release 39 = .ok (.iload_n 3, 1) := by decide +kernel
theorem dX5_release_40 : decode cX5_release 40 = .ok (.aload_n 0, 1) := by decide +kernel
theorem dX5_release_41 : decode cX5_release 41 = .ok (.getfield 20, 3) := by decide +kernel
theorem dX5_release_44 : decode cX5_release 44 = .ok (.iload_n 3, 1) := by decide +kernel
theorem dX5_release_45 : decode cX5_release 45 = .ok (.iaload, 1) := by decide +kernel
theorem dX5_release_46 : decode cX5_release 46 = .ok (.iload_n 2, 1) := by decide +kernel
theorem dX5_release_47 : decode cX5_release 47 = .ok (.if_icmp .le 7, 3) := by decide +kernel
theorem dX5_release_50 : decode cX5_release 50 = .ok (.iload_n 2, 1) := by decide +kernel
theorem dX5_release_51 : decode cX5_release 51 = .ok (.goto 9, 3) := by decide +kernel
theorem dX5_release_54 : decode cX5_release 54 = .ok (.aload_n 0, 1) := by decide +kernel
theorem dX5_release_55 : decode cX5_release 55 = .ok (.getfield 20, 3) := by decide +kernel
theorem dX5_release_58 : decode cX5_release 58 = .ok (.iload_n 3, 1) := by decide +kernel
theorem dX5_release_59 : decode cX5_release 59 = .ok (.iaload, 1) := by decide +kernel
theorem dX5_release_60 : decode cX5_release 60 = .ok (.iastore, 1) := by decide +kernel
theorem dX5_release_61 : decode cX5_release 61 = .ok (.iinc 3 1, 3) := by decide +kernel
theorem dX5_release_64 : decode cX5_release 64 = .ok (.goto (-40), 3) := by decide +kernel
theorem dX5_release_67 : decode cX5_release 67 = .ok (.aload_n 0, 1) := by decide +kernel
theorem dX5_release_68 : decode cX5_release 68 = .ok (.getfield 32, 3) := by decide +kernel
theorem dX5_release_71 : decode cX5_release 71 = .ok (.iload_n 1, 1) := by decide +kernel
theorem dX5_release_72 : decode cX5_release 72 = .ok (.aload_n 0, 1) := by decide +kernel
theorem dX5_release_73 : decode cX5_release 73 = .ok (.getfield 32, 3) := by decide +kernel
theorem dX5_release_76 : decode cX5_release 76 = .ok (.iload_n 1, 1) := by decide +kernel
theorem dX5_release_77 : decode cX5_release 77 = .ok (.iaload, 1) := by decide +kernel
theorem dX5_release_78 : decode cX5_release 78 = .ok (.iload_n 2, 1) := by decide +kernel
theorem dX5_release_79 : decode cX5_release 79 = .ok (.if_icmp .lt 9, 3) := by decide +kernel
theorem dX5_release_82 : decode cX5_release 82 = .ok (.iload_n 2, 1) := by decide +kernel
theorem dX5_release_83 : decode cX5_release 83 = .ok (.iconst 1, 1) := by decide +kernel
theorem dX5_release_84 : decode cX5_release 84 = .ok (.isub, 1) := by decide +kernel
theorem dX5_release_85 : decode cX5_release 85 = .ok (.goto 9, 3) := by decide +kernel
theorem dX5_release_88 : decode cX5_release 88 = .ok (.aload_n 0, 1) := by decide +kernel
theorem dX5_release_89 : decode cX5_release 89 = .ok (.getfield 32, 3) := by decide +kernel
theorem dX5_release_92 : decode cX5_release 92 = .ok (.iload_n 1, 1) := by decide +kernel
theorem dX5_release_93 : decode cX5_release 93 = .ok (.iaload, 1) := by decide +kernel
theorem dX5_release_94 : decode cX5_release 94 = .ok (.iastore, 1) := by decide +kernel
theorem dX5_release_95 : decode cX5_release 95 = .ok (.iconst 1, 1) := by decide +kernel
theorem dX5_release_96 : decode cX5_release 96 = .ok (.ireturn, 1) := by decide +kernel
set_option maxRecDepth 20000 in
theorem ggX5_drop_X5_in : GoodIn wsX5_drop wsX5_in := goodIn_r _ [8] (by decide +kernel) (by decide +kernel)
set_option maxRecDepth 20000 in
theorem gX5_drop_X5_in : GoodIn wsX5_drop (va_wsS RX5 53 yX5_in wsX5_in) := goodIn_app (goodIn_of _ (by decide +kernel)) ggX5_drop_X5_in
theorem dX5_drop_0 : decode cX5_drop 0 = .ok (.iload_n 1, 1) := by decide +kernel
theorem dX5_drop_1 : decode cX5_drop 1 = .ok (.iconst 0, 1) := by decide +kernel
theorem dX5_drop_2 : decode cX5_drop 2 = .ok (.bipush 7, 2) := by decide +kernel
theorem dX5_drop_4 : decode cX5_drop 4 = .ok (.invokestatic 53, 3) := by decide +kernel
theorem dX5_drop_7 : decode cX5_drop 7 = .ok (.ifCond .ne 5, 3) := by decide +kernel
theorem dX5_drop_10 : decode cX5_drop 10 = .ok (.iconst 0, 1) := by decide +kernel
theorem dX5_drop_11 : decode cX5_drop 11 = .ok (.ireturn, 1) := by decide +kernel
theorem dX5_drop_12 : decode cX5_drop 12 = .ok (.iconst 0, 1) := by decide +kernel
theorem dX5_drop_13 : decode cX5_drop 13 = .ok (.istore_n 2, 1) := by decide +kernel
theorem dX5_drop_14 : decode cX5_drop 14 = .ok (.iload_n 2, 1) := by decide +kernel
theorem dX5_drop_15 : decode cX5_drop 15 = .ok (.bipush 6, 2) := by decide +kernel
theorem dX5_drop_17 : decode cX5_drop 17 = .ok (.if_icmp .ge 80, 3) := by decide +kernel
theorem dX5_drop_20 : decode cX5_drop 20 = .ok (.iconst 1, 1) := by decide +kernel
theorem dX5_drop_21 : decode cX5_drop 21 = .ok (.istore_n 3, 1) := by decide +kernel
theorem dX5_drop_22 : decode cX5_drop 22 = .ok (.iload_n 3, 1) := by decide +kernel
theorem dX5_drop_23 : decode cX5_drop 23 = .ok (.bipush 9, 2) := by decide +kernel
theorem dX5_drop_25 : decode cX5_drop 25 = .ok (.if_icmp .ge 26, 3) := by decide +kernel
theorem dX5_drop_28 : decode cX5_drop 28 = .ok (.aload_n 0, 1) := by decide +kernel
theorem dX5_drop_29 : decode cX5_drop 29 = .ok (.getfield 20, 3) := by decide +kernel
theorem dX5_drop_32 : decode cX5_drop 32 = .ok (.bipush 72, 2) := by decide +kernel
theorem dX5_drop_34 : decode cX5_drop 34 = .ok (.iload_n 2, 1) := by decide +kernel
theorem dX5_drop_35 : decode cX5_drop 35 = .ok (.imul, 1) := by decide +kernel
theorem dX5_drop_36 : decode cX5_drop 36 = .ok (.bipush 9, 2) := by decide +kernel
theorem dX5_drop_38 : decode cX5_drop 38 = .ok (.iload_n 1, 1) := by decide +kernel
theorem dX5_drop_39 : decode cX5_drop 39 = .ok (.imul, 1) := by decide +kernel
theorem dX5_drop_40 : decode cX5_drop 40 = .ok (.iadd, 1) := by decide +kernel
theorem dX5_drop_41 : decode cX5_drop 41 = .ok (.iload_n 3, 1) := by decide +kernel
theorem dX5_drop_42 : decode cX5_drop 42 = .ok (.iadd, 1) := by decide +kernel
theorem dX5_drop_43 : decode cX5_drop 43 = .ok (.iconst 0, 1) := by decide +kernel
theorem dX5_drop_44 : decode cX5_drop 44 = .ok (.iastore, 1) := by decide +kernel
theorem dX5_drop_45 : decode cX5_drop 45 = .ok (.iinc 3 1, 3) := by decide +kernel
theorem dX5_drop_48 : decode cX5_drop 48 = .ok (.goto (-26), 3) := by decide +kernel
theorem dX5_drop_51 : decode cX5_drop 51 = .ok (.aload_n 0, 1) := by decide +kernel
theorem dX5_drop_52 : decode cX5_drop 52 = .ok (.getfield 35, 3) := by decide +kernel
theorem dX5_drop_55 : decode cX5_drop 55 = .ok (.iload_n 2, 1) := by decide +kernel
theorem dX5_drop_56 : decode cX5_drop 56 = .ok (.aload_n 0, 1) := by decide +kernel
theorem dX5_drop_57 : decode cX5_drop 57 = .ok (.getfield 35, 3) := by decide +kernel
theorem dX5_drop_60 : decode cX5_drop 60 = .ok (.iload_n 2, 1) := by decide +kernel
theorem dX5_drop_61 : decode cX5_drop 61 = .ok (.baload, 1) := by decide +kernel
theorem dX5_drop_62 : decode cX5_drop 62 = .ok (.ifCond .ne 23, 3) := by decide +kernel
theorem dX5_drop_65 : decode cX5_drop 65 = .ok (.aload_n 0, 1) := by decide +kernel
theorem dX5_drop_66 : decode cX5_drop 66 = .ok (.getfield 23, 3) := by decide +kernel
theorem dX5_drop_69 : decode cX5_drop 69 = .ok (.iload_n 2, 1) := by decide +kernel
theorem dX5_drop_70 : decode cX5_drop 70 = .ok (.iaload, 1) := by decide +kernel
theorem dX5_drop_71 : decode cX5_drop 71 = .ok (.iconst 1, 1) := by decide +kernel
theorem dX5_drop_72 : decode cX5_drop 72 = .ok (.if_icmp .ne 17, 3) := by decide +kernel
theorem dX5_drop_75 : decode cX5_drop 75 = .ok (.aload_n 0, 1) := by decide +kernel
theorem dX5_drop_76 : decode cX5_drop 76 = .ok (.getfield 26, 3) := by decide +kernel
theorem dX5_drop_79 : decode cX5_drop 79 = .ok (.iload_n 2, 1) := by decide +kernel
theorem dX5_drop_80 : decode cX5_drop 80 = .ok (.iaload, 1) := by decide +kernel
theorem dX5_drop_81 : decode cX5_drop 81 = .ok (.iload_n 1, 1) := by decide +kernel
theorem dX5_drop_82 : decode cX5_drop 82 = .ok (.if_icmp .ne 7, 3) := by decide +kernel
theorem dX5_drop_85 : decode cX5_drop 85 = .ok (.iconst 1, 1) := by decide +kernel
theorem dX5_drop_86 : decode cX5_drop 86 = .ok (.goto 4, 3) := by decide +kernel
theorem dX5_drop_89 : decode cX5_drop 89 = .ok (.iconst 0, 1) := by decide +kernel
theorem dX5_drop_90 : decode cX5_drop 90 = .ok (.bastore, 1) := by decide +kernel
theorem dX5_drop_91 : decode cX5_drop 91 = .ok (.iinc 2 1, 3) := by decide +kernel
theorem dX5_drop_94 : decode cX5_drop 94 = .ok (.goto (-80), 3) := by decide +kernel
theorem dX5_drop_97 : decode cX5_drop 97 = .ok (.iconst 1, 1) := by decide +kernel
theorem dX5_drop_98 : decode cX5_drop 98 = .ok (.ireturn, 1) := by decide +kernel
set_option maxRecDepth 20000 in
theorem ggX5_holds_X5_isSession : GoodIn wsX5_holds wsX5_isSession := goodIn_r _ [5, 6, 7, 4, 8] (by decide +kernel) (by decide +kernel)
set_option maxRecDepth 20000 in
theorem gX5_holds_X5_isSession : GoodIn wsX5_holds (va_wsS RX5 61 yX5_isSession wsX5_isSession) := goodIn_app (goodIn_of _ (by decide +kernel)) ggX5_holds_X5_isSession
set_option maxRecDepth 20000 in
theorem ggX5_holds_X5_in : GoodIn wsX5_holds wsX5_in := goodIn_r _ [8] (by decide +kernel) (by decide +kernel)
set_option maxRecDepth 20000 in
theorem gX5_holds_X5_in : GoodIn wsX5_holds (va_wsS RX5 53 yX5_in wsX5_in) := goodIn_app (goodIn_of _ (by decide +kernel)) ggX5_holds_X5_in
theorem dX5_holds_0 : decode cX5_holds 0 = .ok (.iload_n 1, 1) := by decide +kernel
theorem dX5_holds_1 : decode cX5_holds 1 = .ok (.invokestatic 61, 3) := by decide +kernel
theorem dX5_holds_4 : decode cX5_holds 4 = .ok (.ifCond .eq 44, 3) := by decide +kernel
theorem dX5_holds_7 : decode cX5_holds 7 = .ok (.iload_n 2, 1) := by decide +kernel
theorem dX5_holds_8 : decode cX5_holds 8 = .ok (.iconst 0, 1) := by decide +kernel
theorem dX5_holds_9 : decode cX5_holds 9 = .ok (.bipush 7, 2) := by decide +kernel
theorem dX5_holds_11 : decode cX5_holds 11 = .ok (.invokestatic 53, 3) := by decide +kernel
theorem dX5_holds_14 : decode cX5_holds 14 = .ok (.ifCond .eq 34, 3) := by decide +kernel
theorem dX5_holds_17 : decode cX5_holds 17 = .ok (.iload_n 3, 1) := by decide +kernel
theorem dX5_holds_18 : decode cX5_holds 18 = .ok (.iconst 1, 1) := by decide +kernel
theorem dX5_holds_19 : decode cX5_holds 19 = .ok (.bipush 8, 2) := by decide +kernel
theorem dX5_holds_21 : decode cX5_holds 21 = .ok (.invokestatic 53, 3) := by decide +kernel
theorem dX5_holds_24 : decode cX5_holds 24 = .ok (.ifCond .eq 24, 3) := by decide +kernel
theorem dX5_holds_27 : decode cX5_holds 27 = .ok (.aload_n 0, 1) := by decide +kernel
theorem dX5_holds_28 : decode cX5_holds 28 = .ok (.getfield 20, 3) := by decide +kernel
theorem dX5_holds_31 : decode cX5_holds 31 = .ok (.bipush 72, 2) := by decide +kernel
theorem dX5_holds_33 : decode cX5_holds 33 = .ok (.iload_n 1, 1) := by decide +kernel
theorem dX5_holds_34 : decode cX5_holds 34 = .ok (.imul, 1) := by decide +kernel
theorem dX5_holds_35 : decode cX5_holds 35 = .ok (.bipush 9, 2) := by decide +kernel
theorem dX5_holds_37 : decode cX5_holds 37 = .ok (.iload_n 2, 1) := by decide +kernel
theorem dX5_holds_38 : decode cX5_holds 38 = .ok (.imul, 1) := by decide +kernel
theorem dX5_holds_39 : decode cX5_holds 39 = .ok (.iadd, 1) := by decide +kernel
theorem dX5_holds_40 : decode cX5_holds 40 = .ok (.iload_n 3, 1) := by decide +kernel
theorem dX5_holds_41 : decode cX5_holds 41 = .ok (.iadd, 1) := by decide +kernel
theorem dX5_holds_42 : decode cX5_holds 42 = .ok (.iaload, 1) := by decide +kernel
theorem dX5_holds_43 : decode cX5_holds 43 = .ok (.iconst 1, 1) := by decide +kernel
theorem dX5_holds_44 : decode cX5_holds 44 = .ok (.isub, 1) := by decide +kernel
theorem dX5_holds_45 : decode cX5_holds 45 = .ok (.goto 4, 3) := by decide +kernel
theorem dX5_holds_48 : decode cX5_holds 48 = .ok (.iconst (-1), 1) := by decide +kernel
theorem dX5_holds_49 : decode cX5_holds 49 = .ok (.ireturn, 1) := by decide +kernel
set_option maxRecDepth 20000 in
theorem ggX5_on_X5_isSession : GoodIn wsX5_on wsX5_isSession := goodIn_r _ [4, 5, 6, 3, 7] (by decide +kernel) (by decide +kernel)
set_option maxRecDepth 20000 in
theorem gX5_on_X5_isSession : GoodIn wsX5_on (va_wsS RX5 61 yX5_isSession wsX5_isSession) := goodIn_app (goodIn_of _ (by decide +kernel)) ggX5_on_X5_isSession
set_option maxRecDepth 20000 in
theorem ggX5_on_X5_waitsOn : GoodIn wsX5_on wsX5_waitsOn := goodIn_r _ [11, 12, 13, 14, 15, 16, 17, 18, 19, 20, 21, 22, 3, 23, 24, 25, 26, 27, 28, 29, 30, 31, 32, 33, 34, 35, 36, 37, 38, 39, 40, 41, 42, 43, 44, 45, 46, 47, 48, 49, 50] (by decide +kernel) (by decide +kernel)
set_option maxRecDepth 20000 in
theorem gX5_on_X5_waitsOn : GoodIn wsX5_on (wsV RX5 79 RX5 yX5_waitsOn wsX5_waitsOn) := goodIn_app (goodIn_of _ (by decide +kernel)) ggX5_on_X5_waitsOn
theorem dX5_on_0 : decode cX5_on 0 = .ok (.iload_n 1, 1) := by decide +kernel
theorem dX5_on_1 : decode cX5_on 1 = .ok (.invokestatic 61, 3) := by decide +kernel
theorem dX5_on_4 : decode cX5_on 4 = .ok (.ifCond .eq 11, 3) := by decide +kernel
theorem dX5_on_7 : decode cX5_on 7 = .ok (.aload_n 0, 1) := by decide +kernel
theorem dX5_on_8 : decode cX5_on 8 = .ok (.iload_n 1, 1) := by decide +kernel
theorem dX5_on_9 : decode cX5_on 9 = .ok (.invokevirtual 79, 3) := by decide +kernel
theorem dX5_on_12 : decode cX5_on 12 = .ok (.goto 4, 3) := by decide +kernel
theorem dX5_on_15 : decode cX5_on 15 = .ok (.iconst 0, 1) := by decide +kernel
theorem dX5_on_16 : decode cX5_on 16 = .ok (.ireturn, 1) := by decide +kernel
set_option maxRecDepth 20000 in
theorem ggX5_wish_X5_isSession : GoodIn wsX5_wish wsX5_isSession := goodIn_r _ [9, 10, 11, 8, 12] (by decide +kernel) (by decide +kernel)
set_option maxRecDepth 20000 in
theorem gX5_wish_X5_isSession : GoodIn wsX5_wish (va_wsS RX5 61 yX5_isSession wsX5_isSession) := goodIn_app (goodIn_of _ (by decide +kernel)) ggX5_wish_X5_isSession
theorem dX5_wish_0 : decode cX5_wish 0 = .ok (.iload_n 1, 1) := by decide +kernel
theorem dX5_wish_1 : decode cX5_wish 1 = .ok (.invokestatic 61, 3) := by decide +kernel
theorem dX5_wish_4 : decode cX5_wish 4 = .ok (.ifCond .ne 5, 3) := by decide +kernel
theorem dX5_wish_7 : decode cX5_wish 7 = .ok (.iconst (-1), 1) := by decide +kernel
theorem dX5_wish_8 : decode cX5_wish 8 = .ok (.ireturn, 1) := by decide +kernel
theorem dX5_wish_9 : decode cX5_wish 9 = .ok (.aload_n 0, 1) := by decide +kernel
theorem dX5_wish_10 : decode cX5_wish 10 = .ok (.getfield 23, 3) := by decide +kernel
theorem dX5_wish_13 : decode cX5_wish 13 = .ok (.iload_n 1, 1) := by decide +kernel
theorem dX5_wish_14 : decode cX5_wish 14 = .ok (.iaload, 1) := by decide +kernel
theorem dX5_wish_15 : decode cX5_wish 15 = .ok (.iconst 2, 1) := by decide +kernel
theorem dX5_wish_16 : decode cX5_wish 16 = .ok (.if_icmp .ne 14, 3) := by decide +kernel
theorem dX5_wish_19 : decode cX5_wish 19 = .ok (.sipush 10000, 3) := by decide +kernel
theorem dX5_wish_22 : decode cX5_wish 22 = .ok (.aload_n 0, 1) := by decide +kernel
theorem dX5_wish_23 : decode cX5_wish 23 = .ok (.getfield 38, 3) := by decide +kernel
theorem dX5_wish_26 : decode cX5_wish 26 = .ok (.iload_n 1, 1) := by decide +kernel
theorem dX5_wish_27 : decode cX5_wish 27 = .ok (.iaload, 1) := by decide +kernel
theorem dX5_wish_28 : decode cX5_wish 28 = .ok (.iadd, 1) := by decide +kernel
theorem dX5_wish_29 : decode cX5_wish 29 = .ok (.ireturn, 1) := by decide +kernel
theorem dX5_wish_30 : decode cX5_wish 30 = .ok (.aload_n 0, 1) := by decide +kernel
theorem dX5_wish_31 : decode cX5_wish 31 = .ok (.getfield 23, 3) := by decide +kernel
theorem dX5_wish_34 : decode cX5_wish 34 = .ok (.iload_n 1, 1) := by decide +kernel
theorem dX5_wish_35 : decode cX5_wish 35 = .ok (.iaload, 1) := by decide +kernel
theorem dX5_wish_36 : decode cX5_wish 36 = .ok (.ifCond .ne 7, 3) := by decide +kernel
theorem dX5_wish_39 : decode cX5_wish 39 = .ok (.iconst 0, 1) := by decide +kernel
theorem dX5_wish_40 : decode cX5_wish 40 = .ok (.goto 36, 3) := by decide +kernel
theorem dX5_wish_43 : decode cX5_wish 43 = .ok (.bipush 10, 2) := by decide +kernel
theorem dX5_wish_45 : decode cX5_wish 45 = .ok (.aload_n 0, 1) := by decide +kernel
theorem dX5_wish_46 : decode cX5_wish 46 = .ok (.getfield 26, 3) := by decide +kernel
theorem dX5_wish_49 : decode cX5_wish 49 = .ok (.iload_n 1, 1) := by decide +kernel
theorem dX5_wish_50 : decode cX5_wish 50 = .ok (.iaload, 1) := by decide +kernel
theorem dX5_wish_51 : decode cX5_wish 51 = .ok (.imul, 1) := by decide +kernel
theorem dX5_wish_52 : decode cX5_wish 52 = .ok (.aload_n 0, 1) := by decide +kernel
theorem dX5_wish_53 : decode cX5_wish 53 = .ok (.getfield 29, 3) := by decide +kernel
theorem dX5_wish_56 : decode cX5_wish 56 = .ok (.iload_n 1, 1) := by decide +kernel
theorem dX5_wish_57 : decode cX5_wish 57 = .ok (.iaload, 1) := by decide +kernel
theorem dX5_wish_58 : decode cX5_wish 58 = .ok (.iadd, 1) := by decide +kernel
theorem dX5_wish_59 : decode cX5_wish 59 = .ok (.aload_n 0, 1) := by decide +kernel
theorem dX5_wish_60 : decode cX5_wish 60 = .ok (.getfield 35, 3) := by decide +kernel
theorem dX5_wish_63 : decode cX5_wish 63 = .ok (.iload_n 1, 1) := by decide +kernel
theorem dX5_wish_64 : decode cX5_wish 64 = .ok (.baload, 1) := by decide +kernel
theorem dX5_wish_65 : decode cX5_wish 65 = .ok (.ifCond .eq 9, 3) := by decide +kernel
theorem dX5_wish_68 : decode cX5_wish 68 = .ok (.sipush 1000, 3) := by decide +kernel
theorem dX5_wish_71 : decode cX5_wish 71 = .ok (.goto 4, 3) := by decide +kernel
theorem dX5_wish_74 : decode cX5_wish 74 = .ok (.iconst 0, 1) := by decide +kernel
theorem dX5_wish_75 : decode cX5_wish 75 = .ok (.iadd, 1) := by decide +kernel
theorem dX5_wish_76 : decode cX5_wish 76 = .ok (.ireturn, 1) := by decide +kernel
theorem dJ7_fill_031fb_0 : decode cJ7_fill_031fb 0 = .ok (.iconst 0, 1) := by decide +kernel
theorem dJ7_fill_031fb_1 : decode cJ7_fill_031fb 1 = .ok (.istore_n 2, 1) := by decide +kernel
theorem dJ7_fill_031fb_2 : decode cJ7_fill_031fb 2 = .ok (.aload_n 0, 1) := by decide +kernel
theorem dJ7_fill_031fb_3 : decode cJ7_fill_031fb 3 = .ok (.arraylength, 1) := by decide +kernel
theorem dJ7_fill_031fb_4 : decode cJ7_fill_031fb 4 = .ok (.istore_n 3, 1) := by decide +kernel
theorem dJ7_fill_031fb_5 : decode cJ7_fill_031fb 5 = .ok (.iload_n 2, 1) := by decide +kernel
theorem dJ7_fill_031fb_6 : decode cJ7_fill_031fb 6 = .ok (.iload_n 3, 1) := by decide +kernel
theorem dJ7_fill_031fb_7 : decode cJ7_fill_031fb 7 = .ok (.if_icmp .ge 13, 3) := by decide +kernel
theorem dJ7_fill_031fb_10 : decode cJ7_fill_031fb 10 = .ok (.aload_n 0, 1) := by decide +kernel
theorem dJ7_fill_031fb_11 : decode cJ7_fill_031fb 11 = .ok (.iload_n 2, 1) := by decide +kernel
theorem dJ7_fill_031fb_12 : decode cJ7_fill_031fb 12 = .ok (.iload_n 1, 1) := by decide +kernel
theorem dJ7_fill_031fb_13 : decode cJ7_fill_031fb 13 = .ok (.bastore, 1) := by decide +kernel
theorem dJ7_fill_031fb_14 : decode cJ7_fill_031fb 14 = .ok (.iinc 2 1, 3) := by decide +kernel
theorem dJ7_fill_031fb_17 : decode cJ7_fill_031fb 17 = .ok (.goto (-12), 3) := by decide +kernel
theorem dJ7_fill_031fb_20 : decode cJ7_fill_031fb 20 = .ok (.return_, 1) := by decide +kernel
end
section
/-! The frame of this proof: one contract form for every method that makes no cell. -/
def fw_it {σ : Type} (f : Nat → σ → σ) : Nat → σ → σ
  | 0, x => x
  | n + 1, x => f n (fw_it f n x)
theorem fw_it0 {σ : Type} (f : Nat → σ → σ) (x : σ) : fw_it f 0 x = x := rfl
theorem fw_itS {σ : Type} (f : Nat → σ → σ) (n : Nat) (x : σ) : fw_it f (n + 1) x = f n (fw_it f n x) := rfl
/-- the class's table of conflicts -/
def fw_cfI : Nat → Int32
  | 0 => 0
  | 1 => 256
  | 2 => 384
  | 3 => 480
  | 4 => 496
  | 5 => 472
  | 6 => 504
  | 7 => 508
  | _ => 510
def fw_cf (j : Nat) : Value := .int (fw_cfI j)
def fw_Z (tc : Nat) (A : Nat → Prop) (U : State) (H : Heap) : Prop :=
  va_Nw (.methodLinkNest RX0 25 yX4_conflict RX4) U ∧ va_Nw (.methodLinkNest RX2 47 yX4_conflict RX4) U ∧ va_Z RX4 "CONFLICTS" "[I" (.ref tc) A U H ∧ va_T .int tc 9 fw_cf A U H
theorem fw_Z.to {tc : Nat} {A B : Nat → Prop} {s U : State} {H : Heap} {locs : List Loc} (h : fw_Z tc A s s.heap) (hW : s.WarmedH U.vm) (hS : va_S A s.heap H locs) (hAB : ∀ q, B q → A q) : fw_Z tc B U H := by
  obtain ⟨h1, h2, h3, h4⟩ := h
  exact ⟨va_Nw.warmM hW h1, va_Nw.warmM hW h2, va_Z.moved hW.alike ((h3.kept (fun a ha hn => hS.2.1 a ha hn)).narrow hAB), va_T.moved hW.alike ((h4.kept (fun a ha hn => hS.2.1 a ha hn)).narrow hAB)⟩
theorem fw_Z.call {tc : Nat} {A : Nat → Prop} {U : State} {g : JFrame} {mk : MethodId} {a : Array Value} (h : fw_Z tc A U U.heap) : fw_Z tc A (U.calling g mk a) (U.calling g mk a).heap := by
  obtain ⟨h1, h2, h3, h4⟩ := h
  exact ⟨va_Nw.same rfl (u := U) (U := U.calling g mk a) rfl h1, va_Nw.same rfl (u := U) (U := U.calling g mk a) rfl h2, va_Z.moved (u := U) (U := U.calling g mk a) (Vm.Alike.refl U.vm) h3, va_T.moved (u := U) (U := U.calling g mk a) (Vm.Alike.refl U.vm) h4⟩
/-- what a method's start is -/
def fw_B (G : va_G) (tys : List (ClassId × FieldType)) (tc : Nat) (ws : va_W) (sz : Nat) (U : State) : Prop :=
  U.heap.size = sz ∧ va_P G vwCl ws U.heap ∧ va_K G vwCl tys U ∧ va_D (fun _ => True) ws ∧ fw_Z tc (va_A ws sz) U U.heap
def fw_Q (G : va_G) (ws : va_W) (sz : Nat) (post : Option Value → va_W → Prop) : Array Value → State → Outcome → State → Prop := fun _ st o t =>
  (∃ (v : Option Value) (w' : va_W), o = .returned v ∧ post v w' ∧ va_P G vwCl w' t.heap ∧ va_D (va_A ws sz) w') ∧ va_F (va_A ws sz) st t
def KC (l : Launch) (y : MethodName) (wsy : List Cond) (rm : Room) (G : va_G) (tys : List (ClassId × FieldType)) (tc : Nat) (av : List Value) (ws : va_W) (post : Option Value → va_W → Prop) : Prop :=
  ∀ sz : Nat, Met l y wsy rm (va_Pc av (fw_B G tys tc ws sz)) (fw_Q G ws sz post) 0 0 (va_A ws sz)
theorem fw_blind {G : va_G} {tys : List (ClassId × FieldType)} {tc : Nat} {av : List Value} {ws : va_W} {sz : Nat} : FrameBlind (va_Pc av (fw_B G tys tc ws sz)) := by
  intro a U g mk q
  obtain ⟨q0, q1, qP, qK, qD, qZ⟩ := q
  exact ⟨q0, q1, qP, va_K.moved (u := U) (U := U.calling g mk a) (Vm.Alike.refl U.vm) qK, qD, qZ.call⟩
theorem KC.of {l : Launch} {y : MethodName} {wsy ws' : List Cond} {rm : Room} {G : va_G} {tys : List (ClassId × FieldType)} {tc : Nat} {av : List Value} {ws : va_W} {post : Option Value → va_W → Prop} {cc : ByteArray} {maxL : Nat} {ret : Option FieldType}
    (hy : plainName y.cls = true) (hw : wsy = Cond.code y cc maxL ret :: ws') (hlen : (lg_sl av).length ≤ maxL)
    (body : ∀ (p : Program) (e : Env) (s : State) (m : MethodId) (below : List Frame) (meth : Method) (c : Code) (args : Array Value) (A : Nat → Prop) (Q : State → Prop) (ls : Array Slot),
      p.tables.exec = Jvm.exec → c.code = cc → c.maxLocals = maxL → s.vm.findClass y.cls = some m.cls → (∀ w ∈ wsy, w.before args s = true) → va_K G vwCl tys s → fw_Z tc A s s.heap → (∀ q, s.heap.size ≤ q → A q) →
      va_P G vwCl ws s.heap → va_D A ws → va_S A s.heap s.heap [] → lv_has ls maxL (lv_args 0 av) →
      (∀ ty : FieldType, ret = some ty → ∀ (v : Int32) (w' : va_W) (H : Heap) (locs : List Loc) (pc : Nat) (ls : Array Slot), narrow ty (.int v) = .int v → post (some (.int v)) w' → va_P G vwCl w' H → va_D A w' → va_S A s.heap H locs → decode cc pc = .ok (.ireturn, 1) → W p l e rm s m args below meth c H locs 0 0 Q (F0 m pc ls [.int v])) →
      (ret = none → ∀ (w' : va_W) (H : Heap) (locs : List Loc) (pc : Nat) (ls : Array Slot), post none w' → va_P G vwCl w' H → va_D A w' → va_S A s.heap H locs → decode cc pc = .ok (.return_, 1) → W p l e rm s m args below meth c H locs 0 0 Q (F0 m pc ls [])) →
      W p l e rm s m args below meth c s.heap [] 0 0 Q (F0 m 0 ls [])) : KC l y wsy rm G tys tc av ws post := by
  intro sz
  refine Met.ofW (cc := cc) (maxL := maxL) (ret := ret) hy hw ?_
  intro p e s m args below meth c s₁ B hml hv
  obtain ⟨rfl, hsz, hP, hK, hD0, hZ⟩ := hv
  subst hsz
  have hl := lv_entry av (n := maxL) hlen
  rw [lg_entry_eq]
  have hlocks := B.notSynchronized
  refine body p e s m below meth c av.toArray (va_A ws s.heap.size) _ _ B.exec B.bytes hml (findClass_of_methodNamed B.named) (atoms_spec (ws := wsy) B.pre) hK hZ (fun q h => Or.inr h) hP hD0.self va_S.rf hl ?_ ?_
  · intro ty hty v w' H locs pc ls hn hpost hP hD hS hd
    exact W.zret B.exec B.bytes (B.returns.trans hty) hn (fun t ht hW => ⟨⟨some (.int v), w', rfl, hpost, by rw [ht]; exact hP, hD⟩, hS.F ht⟩) hS.2.2 hd hlocks
  · intro hret w' H locs pc ls hpost hP hD hS hd
    exact W.vret B.exec B.bytes (B.returns.trans hret) (fun t ht hW => ⟨⟨none, w', rfl, hpost, by rw [ht]; exact hP, hD⟩, hS.F ht⟩) hS.2.2 hd hlocks
section FWC
variable {p : Program} {l : Launch} {e : Env} {R : Room} {s : State} {m : MethodId} {args : Array Value} {below : List Frame} {meth : Method} {c : Code} {H : Heap} {locs : List Loc} {cells slots : Nat} {Q : State → Prop}
variable {y : MethodName} {bytes cc : ByteArray} {maxL nL n index : Nat} {ret : Option FieldType} {wsy : List Cond} {rm : Room} {Ts : List Cond} {own C host : String} {b : Addr} {As rest st0 : List Value} {pc : Nat} {ls : Array Slot}
variable {G : va_G} {tys : List (ClassId × FieldType)} {tc : Nat} {ws : va_W} {post : Option Value → va_W → Prop} {A : Nat → Prop}
/-- what a call leaves: the callee's post, its world, the frame -/
theorem fw_after {a : Array Value} (hr : va_Run p l e R s m args below meth c H locs cells slots 0 0 (F0 m pc ls st0) rest (fw_Q G ws H.size post a) (va_A ws H.size)) (hS : va_S A s.heap H locs) (hF : ∀ q, va_A ws H.size q → A q)
    (kk : ∀ (v : Option Value) (w' : va_W) (H1 : Heap) (locs1 : List Loc), post v w' → va_P G vwCl w' H1 → va_D A w' → va_S A s.heap H1 locs1 → W p l e R s m args below meth c H1 locs1 cells slots Q (F0 m (pc + 3) ls (v.toList ++ rest))) : W p l e R s m args below meth c H locs cells slots Q (F0 m pc ls st0) := by
  intro T hT X
  obtain ⟨v, st₀, t, T', L, h0, X', hL, e1, e2, ⟨⟨v', w', hv, hp, hPw, hDw⟩, hz, hk⟩, st⟩ := hr T hT X
  cases hv
  rw [h0] at hz hk
  obtain ⟨t2, a1, b1⟩ := kk v w' T'.heap (locs ++ L) hp (by rw [e1]; exact hPw) (hDw.weaken (fun k q _ h => hF q.1 h))
    ⟨Nat.le_trans hS.1 (by rw [e1]; exact hz), fun q h1 h2 => by rw [e1, hk q (Nat.lt_of_lt_of_le h1 hS.1) (fun z => h2 (hF q z))]; exact hS.2.1 q h1 h2, fun q hq => by
      rcases List.mem_append.mp hq with h | h
      · exact hS.2.2 q h
      · exact hF _ (hL q h)⟩ T' rfl X'
  exact ⟨t2, st t2 a1, b1⟩
theorem fw_freeA {H0 : Heap} (hD : va_D A ws) (hS : va_S A H0 H locs) (hA : ∀ q, H0.size ≤ q → A q) : ∀ q, va_A ws H.size q → A q := by
  intro q h
  rcases h with ⟨k, e, h⟩ | h
  · exact hD.2 k (q, e) h
  · exact hA q (Nat.le_trans hS.1 h)
theorem fw_preU {av : List Value} (hK : va_K G vwCl tys s) (hZ : fw_Z tc A s s.heap) (hF : ∀ q, va_A ws H.size q → A q) (hP : va_P G vwCl ws H) (hD : va_D A ws) (hS : va_S A s.heap H locs) (U : State) (hU : U.heap = H) (hW : s.WarmedH U.vm) : va_Pc av (fw_B G tys tc ws H.size) av.toArray U := by
  subst hU
  exact ⟨rfl, rfl, hP, va_K.moved hW.alike hK, hD.weaken (fun _ _ _ _ => trivial), hZ.to hW hS hF⟩
/-- a call of an instance method on the whole world -/
theorem kV (S : CallFix p m c cc nL s args Ts own) (hM : KC l y wsy rm G tys tc (.ref b :: As) ws post) (cw : CallW R s args own C index y bytes maxL ret wsy rm 0 0 n)
    (hK : va_K G vwCl tys s) (hZ : fw_Z tc A s s.heap) (hA : ∀ q, s.heap.size ≤ q → A q) (hP : va_P G vwCl ws H) (hD : va_D A ws) (hS : va_S A s.heap H locs)
    (q0 ci : Nat) {T : u_T} {N : Nat} {fs : List Value} (hc : vwCl[ci]? = some (C, T, N)) (he : ws[q0]? = some (b, .inr (ci, fs)))
    (hn : As.length = n) (hsize : ls.size = nL) (hst : st0 = As.reverse ++ .ref b :: rest) (hroom : (rest.map fun v => v.category).sum ≤ 8) (hdg : decode cc pc = .ok (.invokevirtual index, 3)) (hf : cells ≤ R.cells ∧ slots ≤ R.slots)
    (kk : ∀ (v : Option Value) (w' : va_W) (H1 : Heap) (locs1 : List Loc), post v w' → va_P G vwCl w' H1 → va_D A w' → va_S A s.heap H1 locs1 → W p l e R s m args below meth c H1 locs1 cells slots Q (F0 m (pc + 3) ls (v.toList ++ rest))) : W p l e R s m args below meth c H locs cells slots Q (F0 m pc ls st0) := by
  have hF := fw_freeA (H := H) hD hS hA
  exact fw_after (va_runV (As := As) (rest := rest) S (hM H.size) cw ⟨fw_blind, va_recv hK hP hc he, fun U hU hW => fw_preU hK hZ hF hP hD hS U hU hW⟩ rfl hn hsize hst (lv_room hroom) hdg hf) hS hF kk
/-- a call of a static method -/
theorem kS (S : CallFix p m c cc nL s args Ts own) (hM : KC l y wsy rm G tys tc As ws post) (cw : CallB R s args own index y bytes maxL ret wsy rm 0 0 n ∧ (Cond.static y).before args s = true)
    (hK : va_K G vwCl tys s) (hZ : fw_Z tc A s s.heap) (hA : ∀ q, s.heap.size ≤ q → A q) (hP : va_P G vwCl ws H) (hD : va_D A ws) (hS : va_S A s.heap H locs)
    (hn : As.length = n) (hsize : ls.size = nL) (hst : st0 = As.reverse ++ rest) (hroom : (rest.map fun v => v.category).sum ≤ 8) (hdg : decode cc pc = .ok (.invokestatic index, 3)) (hf : cells ≤ R.cells ∧ slots ≤ R.slots)
    (kk : ∀ (v : Option Value) (w' : va_W) (H1 : Heap) (locs1 : List Loc), post v w' → va_P G vwCl w' H1 → va_D A w' → va_S A s.heap H1 locs1 → W p l e R s m args below meth c H1 locs1 cells slots Q (F0 m (pc + 3) ls (v.toList ++ rest))) : W p l e R s m args below meth c H locs cells slots Q (F0 m pc ls st0) := by
  have hF := fw_freeA (H := H) hD hS hA
  exact fw_after (va_runS (As := As) (rest := rest) S (hM H.size) cw ⟨fw_blind, fun U hU hW => fw_preU hK hZ hF hP hD hS U hU hW⟩ rfl hn hsize hst (lv_room hroom) hdg hf) hS hF kk
/-- a call of a private static method of a nest mate -/
theorem kSN (S : CallFix p m c cc nL s args Ts own) (hM : KC l y wsy rm G tys tc As ws post) (cw : va_CN R s args own index y host bytes maxL ret wsy rm 0 0 n ∧ (Cond.static y).before args s = true ∧ True)
    (hK : va_K G vwCl tys s) (hZ : fw_Z tc A s s.heap) (hA : ∀ q, s.heap.size ≤ q → A q) (hP : va_P G vwCl ws H) (hD : va_D A ws) (hS : va_S A s.heap H locs)
    (hn : As.length = n) (hsize : ls.size = nL) (hst : st0 = As.reverse ++ rest) (hroom : (rest.map fun v => v.category).sum ≤ 8) (hdg : decode cc pc = .ok (.invokestatic index, 3)) (hf : cells ≤ R.cells ∧ slots ≤ R.slots)
    (kk : ∀ (v : Option Value) (w' : va_W) (H1 : Heap) (locs1 : List Loc), post v w' → va_P G vwCl w' H1 → va_D A w' → va_S A s.heap H1 locs1 → W p l e R s m args below meth c H1 locs1 cells slots Q (F0 m (pc + 3) ls (v.toList ++ rest))) : W p l e R s m args below meth c H locs cells slots Q (F0 m pc ls st0) := by
  have hF := fw_freeA (H := H) hD hS hA
  exact fw_after (va_runSN (As := As) (rest := rest) S (hM H.size) cw ⟨fw_blind, fun U hU hW => fw_preU hK hZ hF hP hD hS U hU hW⟩ rfl hn hsize hst (lv_room hroom) hdg hf) hS hF kk
end FWC

theorem fw_inc (i : Nat) : nI i + Int32.ofInt 1 = nI (i + 1) := nI_1 i
section FWA
variable {p : Program} {l : Launch} {e : Env} {R : Room} {s : State} {m : MethodId} {args : Array Value} {below : List Frame} {meth : Method} {c : Code} {H : Heap} {locs : List Loc} {cells slots : Nat} {Q : State → Prop}
variable {cc : ByteArray} {pc : Nat} {ls : Array Slot} {rest : List Value} {D : va_G} {cl : List vw_C} {A : Nat → Prop} {ad : Nat} {tys : List (ClassId × FieldType)} {ws : va_W} {H0 : Heap} {j : Nat}
theorem fw_iald (hexec : p.tables.exec = Jvm.exec) (hb : c.code = cc) (hK : va_K D cl tys s) (hP : va_P D cl ws H) (q0 t0 : Nat) {cA : ClassId} {n : Nat} {f : Nat → Int32} (ha : ws[q0]? = some (ad, .inl (cA, n, .inl f))) (ht : tys[t0]? = some (cA, .int)) (hj : j < n) (hn : n < 2 ^ 31) (hdg : decode cc pc = .ok (.iaload, 1))
    (kk : W p l e R s m args below meth c H locs cells slots Q (F0 m (pc + 1) ls (.int (f j) :: rest))) : W p l e R s m args below meth c H locs cells slots Q (F0 m pc ls (.int (nI j) :: .ref ad :: rest)) := by
  refine va_iald hexec hb hK hP q0 t0 ha ht (vp_in_nI hj hn) hdg ?_
  rw [nI_clamp (Nat.lt_trans hj hn)]
  exact kk
theorem fw_bald (hexec : p.tables.exec = Jvm.exec) (hb : c.code = cc) (hK : va_K D cl tys s) (hP : va_P D cl ws H) (q0 t0 : Nat) {cA : ClassId} {n : Nat} {f : Nat → Int32} (ha : ws[q0]? = some (ad, .inl (cA, n, .inl f))) (ht : tys[t0]? = some (cA, .byte)) (hj : j < n) (hn : n < 2 ^ 31) (hdg : decode cc pc = .ok (.baload, 1))
    (kk : W p l e R s m args below meth c H locs cells slots Q (F0 m (pc + 1) ls (.int (f j) :: rest))) : W p l e R s m args below meth c H locs cells slots Q (F0 m pc ls (.int (nI j) :: .ref ad :: rest)) := by
  refine va_bald hexec hb hK hP q0 t0 ha ht (vp_in_nI hj hn) hdg ?_
  rw [nI_clamp (Nat.lt_trans hj hn)]
  exact kk
theorem fw_zald (hexec : p.tables.exec = Jvm.exec) (hb : c.code = cc) (hK : va_K D cl tys s) (hP : va_P D cl ws H) (q0 t0 : Nat) {cA : ClassId} {n : Nat} {f : Nat → Int32} (ha : ws[q0]? = some (ad, .inl (cA, n, .inl f))) (ht : tys[t0]? = some (cA, .boolean)) (hj : j < n) (hn : n < 2 ^ 31) (hdg : decode cc pc = .ok (.baload, 1))
    (kk : W p l e R s m args below meth c H locs cells slots Q (F0 m (pc + 1) ls (.int (f j) :: rest))) : W p l e R s m args below meth c H locs cells slots Q (F0 m pc ls (.int (nI j) :: .ref ad :: rest)) := by
  refine va_zald hexec hb hK hP q0 t0 ha ht (vp_in_nI hj hn) hdg ?_
  rw [nI_clamp (Nat.lt_trans hj hn)]
  exact kk
theorem fw_iast (hexec : p.tables.exec = Jvm.exec) (hb : c.code = cc) (hK : va_K D cl tys s) (hP : va_P D cl ws H) (hD : va_D A ws) (hS : va_S A H0 H locs) (q0 t0 : Nat) {cA : ClassId} {n : Nat} {f : Nat → Int32} {x : Int32} (ha : ws[q0]? = some (ad, .inl (cA, n, .inl f))) (ht : tys[t0]? = some (cA, .int)) (hj : j < n) (hn : n < 2 ^ 31) (hdg : decode cc pc = .ok (.iastore, 1))
    (kk : ∀ (H1 : Heap) (locs1 : List Loc), va_P D cl (ws.set q0 (ad, .inl (cA, n, .inl (upd f j x)))) H1 → va_D A (ws.set q0 (ad, .inl (cA, n, .inl (upd f j x)))) → va_S A H0 H1 locs1 → W p l e R s m args below meth c H1 locs1 cells slots Q (F0 m (pc + 1) ls rest)) : W p l e R s m args below meth c H locs cells slots Q (F0 m pc ls (.int x :: .int (nI j) :: .ref ad :: rest)) := by
  refine va_iast hexec hb hK hP hD hS q0 t0 ha ht (vp_in_nI hj hn) hdg (fun H1 locs1 h1 h2 h3 => ?_)
  rw [nI_clamp (Nat.lt_trans hj hn)] at h1 h2
  exact kk H1 locs1 h1 h2 h3
theorem fw_bast (hexec : p.tables.exec = Jvm.exec) (hb : c.code = cc) (hK : va_K D cl tys s) (hP : va_P D cl ws H) (hD : va_D A ws) (hS : va_S A H0 H locs) (q0 t0 : Nat) {cA : ClassId} {n : Nat} {f : Nat → Int32} {x : Int32} (ha : ws[q0]? = some (ad, .inl (cA, n, .inl f))) (ht : tys[t0]? = some (cA, .byte)) (hj : j < n) (hn : n < 2 ^ 31) (hnar : vp_nar .byte x = x) (hdg : decode cc pc = .ok (.bastore, 1))
    (kk : ∀ (H1 : Heap) (locs1 : List Loc), va_P D cl (ws.set q0 (ad, .inl (cA, n, .inl (upd f j x)))) H1 → va_D A (ws.set q0 (ad, .inl (cA, n, .inl (upd f j x)))) → va_S A H0 H1 locs1 → W p l e R s m args below meth c H1 locs1 cells slots Q (F0 m (pc + 1) ls rest)) : W p l e R s m args below meth c H locs cells slots Q (F0 m pc ls (.int x :: .int (nI j) :: .ref ad :: rest)) := by
  refine va_bast hexec hb hK hP hD hS q0 t0 ha ht (vp_in_nI hj hn) hdg (fun H1 locs1 h1 h2 h3 => ?_)
  rw [nI_clamp (Nat.lt_trans hj hn), hnar] at h1 h2
  exact kk H1 locs1 h1 h2 h3
theorem fw_zast (hexec : p.tables.exec = Jvm.exec) (hb : c.code = cc) (hK : va_K D cl tys s) (hP : va_P D cl ws H) (hD : va_D A ws) (hS : va_S A H0 H locs) (q0 t0 : Nat) {cA : ClassId} {n : Nat} {f : Nat → Int32} {x : Int32} (ha : ws[q0]? = some (ad, .inl (cA, n, .inl f))) (ht : tys[t0]? = some (cA, .boolean)) (hj : j < n) (hn : n < 2 ^ 31) (hnar : vp_nar .boolean x = x) (hdg : decode cc pc = .ok (.bastore, 1))
    (kk : ∀ (H1 : Heap) (locs1 : List Loc), va_P D cl (ws.set q0 (ad, .inl (cA, n, .inl (upd f j x)))) H1 → va_D A (ws.set q0 (ad, .inl (cA, n, .inl (upd f j x)))) → va_S A H0 H1 locs1 → W p l e R s m args below meth c H1 locs1 cells slots Q (F0 m (pc + 1) ls rest)) : W p l e R s m args below meth c H locs cells slots Q (F0 m pc ls (.int x :: .int (nI j) :: .ref ad :: rest)) := by
  refine va_zast hexec hb hK hP hD hS q0 t0 ha ht (vp_in_nI hj hn) hdg (fun H1 locs1 h1 h2 h3 => ?_)
  rw [nI_clamp (Nat.lt_trans hj hn), hnar] at h1 h2
  exact kk H1 locs1 h1 h2 h3
end FWA
/-- a Java boolean -/
def fw_b (x : Bool) : Int32 := if x then 1 else 0
theorem fw_b0 {x : Bool} : fw_b x = 0 ↔ x = false := by cases x <;> decide
theorem fw_b1 {x : Bool} : ¬ fw_b x = 0 ↔ x = true := by cases x <;> decide
theorem fw_bn (x : Bool) : narrow .boolean (.int (fw_b x)) = .int (fw_b x) := by cases x <;> decide
theorem fw_nle {a b : Nat} (h : nI a ≤ nI b) (ha : a < 2 ^ 31) (hb : b < 2 ^ 31) : a ≤ b := (nI_leI ha hb).mp h
theorem fw_nlt {a b : Nat} (h : ¬ nI a ≤ nI b) (ha : a < 2 ^ 31) (hb : b < 2 ^ 31) : b < a := Nat.not_le.mp (fun q => h ((nI_leI ha hb).mpr q))
def wd (a : Nat → Nat) (cB cI cZ : ClassId) (gv : Int32) (rn : Nat → Int32) (lv : Nat → Int32) (rc : Int32) (lk : Nat → Int32) (ss : Nat → Int32) (rw : Nat → Int32) (sg : Nat → Int32) (qc : Int32) (od : Nat → Int32) (aw : Nat → Int32) (tb : Nat → Int32) (md : Nat → Int32) (ql : Nat → Int32) (dr : Nat → Int32) : va_W := [(a 0, .inr (4, [.ref (a 1), .ref (a 2), .ref (a 3), .ref (a 4)])), (a 1, .inr (1, [.ref (a 5), .int gv])), (a 2, .inr (0, [.ref (a 6)])), (a 3, .inr (3, [.ref (a 7), .ref (a 8), .ref (a 9), .ref (a 10), .int rc])), (a 4, .inr (2, [.ref (a 11), .int qc, .ref (a 12), .ref (a 13), .ref (a 14), .ref (a 15), .ref (a 16)])), (a 5, .inl (cB, 4001, .inl rn)), (a 6, .inl (cB, 384, .inl lv)), (a 7, .inl (cI, 512, .inl lk)), (a 8, .inl (cI, 512, .inl ss)), (a 9, .inl (cI, 512, .inl rw)), (a 10, .inl (cI, 512, .inl sg)), (a 11, .inl (cI, 6, .inl od)), (a 12, .inl (cI, 6, .inl aw)), (a 13, .inl (cI, 6, .inl tb)), (a 14, .inl (cI, 6, .inl md)), (a 15, .inl (cI, 6, .inl ql)), (a 16, .inl (cZ, 6, .inl dr))]
def wm (a : Nat → Nat) (cB cI cZ : ClassId) (ag : Nat → Int32) (mg : Int32) (ow : Nat → Int32) (ru : Nat → Int32) (hd : Nat → Int32) (kd : Nat → Int32) (tb : Nat → Int32) (md : Nat → Int32) (lv : Nat → Int32) (dr : Nat → Int32) (nb : Nat → Int32) (bg : Nat → Int32) (tm : Int32) (lc : Int32) (lr : Nat → Int32) (lb : Nat → Int32) (lh : Nat → Int32) : va_W := [(a 0, .inr (5, [.ref (a 1), .int mg, .ref (a 2), .ref (a 3), .ref (a 4), .ref (a 5), .ref (a 6), .ref (a 7), .ref (a 8), .ref (a 9), .ref (a 10), .ref (a 11), .int tm, .int lc, .ref (a 12), .ref (a 13), .ref (a 14)])), (a 1, .inl (cI, 9, .inl ag)), (a 2, .inl (cI, 4001, .inl ow)), (a 3, .inl (cZ, 4001, .inl ru)), (a 4, .inl (cI, 432, .inl hd)), (a 5, .inl (cI, 6, .inl kd)), (a 6, .inl (cI, 6, .inl tb)), (a 7, .inl (cI, 6, .inl md)), (a 8, .inl (cI, 6, .inl lv)), (a 9, .inl (cZ, 6, .inl dr)), (a 10, .inl (cI, 6, .inl nb)), (a 11, .inl (cI, 6, .inl bg)), (a 12, .inl (cI, 600, .inl lr)), (a 13, .inl (cI, 600, .inl lb)), (a 14, .inl (cI, 600, .inl lh))]
theorem fw_gt {a b : Nat} (h : nI a < nI b) (ha : a < 2 ^ 31) (hb : b < 2 ^ 31) : a < b := (nI_ltI ha hb).mp h
theorem fw_ngt {a b : Nat} (h : ¬ nI a < nI b) (ha : a < 2 ^ 31) (hb : b < 2 ^ 31) : b ≤ a := Nat.not_lt.mp (fun q => h ((nI_ltI ha hb).mpr q))
end
section
/-! Pure words: what the class's methods answer. -/
def px_has (b p : Int32) : Bool := !decide (b &&& (1 <<< (p &&& 31)) = 0)
def px_isS (x : Int32) : Bool := !decide (x < 0) && !decide (6 ≤ x)
def px_isT (x : Int32) : Bool := !decide (x < 0) && !decide (8 ≤ x)
def px_isR (x : Int32) : Bool := !decide (x < 0) && !decide (1200 ≤ x)
def px_isM (x : Int32) : Bool := !decide (x < 1) && !decide (8 < x)
theorem px_rng {x : Int32} {n : Nat} (hn : n < 2 ^ 31) (h0 : ¬ x < 0) (h1 : ¬ nI n ≤ x) : ∃ j : Nat, j < n ∧ x = nI j := by
  rcases pk_ix x hn with h | h | h
  · exact absurd h h0
  · exact absurd h h1
  · exact h
theorem px_isS_of {x : Int32} (h : px_isS x = true) : ∃ j : Nat, j < 6 ∧ x = nI j := by
  simp only [px_isS, Bool.and_eq_true, Bool.not_eq_true', decide_eq_false_iff_not] at h
  exact px_rng (by decide) h.1 h.2
theorem px_isT_of {x : Int32} (h : px_isT x = true) : ∃ j : Nat, j < 8 ∧ x = nI j := by
  simp only [px_isT, Bool.and_eq_true, Bool.not_eq_true', decide_eq_false_iff_not] at h
  exact px_rng (by decide) h.1 h.2
theorem px_isR_of {x : Int32} (h : px_isR x = true) : ∃ j : Nat, j < 1200 ∧ x = nI j := by
  simp only [px_isR, Bool.and_eq_true, Bool.not_eq_true', decide_eq_false_iff_not] at h
  exact px_rng (by decide) h.1 h.2
theorem px_isM_of {x : Int32} (h : px_isM x = true) : ∃ j : Nat, j < 8 ∧ x = nI (j + 1) := by
  simp only [px_isM, Bool.and_eq_true, Bool.not_eq_true', decide_eq_false_iff_not] at h
  obtain ⟨h1, h2⟩ := h
  have h0 : ¬ x < 0 := fun q => h1 (Int32.lt_trans q (by decide))
  have h3 : ¬ nI 9 ≤ x := fun q => h2 (Int32.lt_of_lt_of_le (by decide) q)
  obtain ⟨j, hj, rfl⟩ := px_rng (n := 9) (by decide) h0 h3
  cases j with
  | zero => exact absurd (by decide) h1
  | succ j => exact ⟨j, by omega, rfl⟩
def px_any (P : Nat → Bool) : Nat → Bool
  | 0 => false
  | n + 1 => px_any P n || P n
theorem px_anyT {P : Nat → Bool} {i : Nat} (h : P i = true) : ∀ {n : Nat}, i < n → px_any P n = true
  | 0, hi => absurd hi (Nat.not_lt_zero _)
  | n + 1, hi => by
    by_cases e : i = n
    · subst e; simp [px_any, h]
    · have := px_anyT h (n := n) (by omega)
      simp [px_any, this]
theorem px_anyS {P : Nat → Bool} {i : Nat} (h : px_any P i = false) (h2 : P i = false) : px_any P (i + 1) = false := by simp [px_any, h, h2]
theorem px_b8 : ∀ z, z < 128 → (nI z).toInt8.toInt32 = nI z := by decide +kernel
theorem px_n8 : ∀ z, z < 128 → vp_nar .byte (nI z) = nI z := by decide +kernel
/-- the class's conflict of modes a and b -/
def px_cf (a : Nat) (b : Int32) : Bool := px_has (fw_cfI a) b
/-- a session stands against a mode (its place m + 1 in the table) -/
def px_saP (lv : Nat → Int32) (x y m : Nat) (k : Nat) : Bool := px_cf m (nI (k + 1)) && !decide (lv (64 * x + 8 * y + k) = -1)
def px_sa (lv : Nat → Int32) (x y m : Nat) : Bool := px_any (px_saP lv x y m) 8
def px_repS (x : Nat) (lo lev : Int32) (i : Nat) (f : Nat → Int32) : Nat → Int32 := if f (64 * x + i) < lo then f else upd f (64 * x + i) lev
def px_rep (x : Nat) (lo lev : Int32) (f : Nat → Int32) : Nat → Int32 := fw_it (px_repS x lo lev) 64 f
def px_fgS (y x : Nat) (k : Nat) (f : Nat → Int32) : Nat → Int32 := upd f (64 * x + 8 * y + k) (-1)
def px_fgO (y x : Nat) (f : Nat → Int32) : Nat → Int32 := fw_it (px_fgS y x) 8 f
def px_fg (y : Nat) (f : Nat → Int32) : Nat → Int32 := fw_it (px_fgO y) 6 f
def px_was (g : Nat) (x : Int32) : Bool := !decide (x < 1) && !decide (nI g < x)
theorem px_was_of {g : Nat} {x : Int32} (hg : g < 2 ^ 31 - 1) (h : px_was g x = true) : ∃ k : Nat, 1 ≤ k ∧ k ≤ g ∧ x = nI k := by
  simp only [px_was, Bool.and_eq_true, Bool.not_eq_true', decide_eq_false_iff_not] at h
  obtain ⟨h1, h2⟩ := h
  have h0 : ¬ x < 0 := fun q => h1 (Int32.lt_trans q (by decide))
  obtain ⟨j, hj, rfl⟩ := nI_of h0
  refine ⟨j, ?_, ?_, rfl⟩
  · rcases Nat.eq_zero_or_pos j with h | h
    · subst h; exact absurd (by decide) h1
    · exact h
  · exact Nat.not_lt.mp fun q => h2 ((nI_ltI (by omega) hj).mpr q)
theorem px_was_nI {g k : Nat} (hg : g < 2 ^ 31) (h1 : 1 ≤ k) (h2 : k ≤ g) : px_was g (nI k) = true := by
  have a1 : ¬ nI k < 1 := fun q => by
    have := (nI_ltI (a := k) (b := 1) (by omega) (by decide)).mp q
    omega
  have a2 : ¬ nI g < nI k := fun q => by
    have := (nI_ltI (a := g) (b := k) (by omega) (by omega)).mp q
    omega
  simp [px_was, a1, a2]
def px_run (g : Nat) (rn : Nat → Int32) (x : Int32) : Int32 := if px_was g x then rn x.toNatClampNeg else -1
theorem px_run_nI {g k : Nat} {rn : Nat → Int32} (hg : g < 2 ^ 31) (h1 : 1 ≤ k) (h2 : k ≤ g) : px_run g rn (nI k) = rn k := by
  simp only [px_run, px_was_nI hg h1 h2, if_true]
  rw [nI_clamp (by omega)]
theorem px_cellE (x y k : Nat) : nI x * 64 + nI y * 8 + nI (k + 1) - 1 = nI (64 * x + 8 * y + k) := by
  rw [show (64 : Int32) = nI 64 from rfl, show (8 : Int32) = nI 8 from rfl, pk_mul, pk_mul, nI_add, nI_add, show x * 64 + y * 8 + (k + 1) = (64 * x + 8 * y + k) + 1 by omega, nI_pred]
theorem px_e64 (x : Nat) : nI (64 * x) + 64 = nI (64 * x + 64) := nI_add (64 * x) 64
end
section
/-! Pure words of the queue and of the locks on rows. -/
def px_fst (P : Nat → Bool) : Nat → Option Nat
  | 0 => none
  | n + 1 => match px_fst P n with
    | some k => some k
    | none => if P n then some n else none
theorem px_fstS {P : Nat → Bool} {i : Nat} (h : px_fst P i = none) (h2 : P i = false) : px_fst P (i + 1) = none := by simp [px_fst, h, h2]
theorem px_fstT {P : Nat → Bool} {i : Nat} (h : px_fst P i = none) (h2 : P i = true) : ∀ {n : Nat}, i < n → px_fst P n = some i
  | 0, hi => absurd hi (Nat.not_lt_zero _)
  | n + 1, hi => by
    by_cases e : i = n
    · subst e; simp [px_fst, h, h2]
    · have := px_fstT h h2 (n := n) (by omega)
      simp [px_fst, this]
theorem px_fst_lt {P : Nat → Bool} {k : Nat} : ∀ {n : Nat}, px_fst P n = some k → k < n
  | 0, h => by simp [px_fst] at h
  | n + 1, h => by
    cases e : px_fst P n with
    | some j =>
      have := px_fst_lt e
      simp [px_fst, e] at h
      omega
    | none =>
      simp [px_fst, e] at h
      omega
def px_ix (o : Option Nat) : Int32 := match o with
  | some k => nI k
  | none => -1
def px_pl (n : Nat) (od : Nat → Int32) (x : Int32) : Option Nat := px_fst (fun k => decide (od k = x)) n
theorem px_nm1 : ∀ k, k < 8 → ¬ nI k = -1 := by decide +kernel
theorem px_ix_none {n : Nat} {P : Nat → Bool} (hn : n ≤ 6) (h : px_ix (px_fst P n) = -1) : px_fst P n = none := by
  cases e : px_fst P n with
  | none => rfl
  | some k =>
    rw [e] at h
    exact absurd h (px_nm1 k (by have := px_fst_lt e; omega))
theorem px_ix_some {n : Nat} {P : Nat → Bool} (h : ¬ px_ix (px_fst P n) = -1) : ∃ k, px_fst P n = some k := by
  cases e : px_fst P n with
  | none => rw [e] at h; exact absurd rfl h
  | some k => exact ⟨k, rfl⟩
def px_at (n : Nat) (od : Nat → Int32) (x : Int32) : Int32 := if x < 0 then -1 else if nI n ≤ x then -1 else od x.toNatClampNeg
def px_rmS (x : Int32) (i : Nat) (st : Nat × (Nat → Int32)) : Nat × (Nat → Int32) := if st.2 i = x then st else (st.1 + 1, upd st.2 st.1 (st.2 i))
def px_rm (n : Nat) (od : Nat → Int32) (x : Int32) : Nat × (Nat → Int32) := fw_it (px_rmS x) n (0, od)
def px_wants (aw tb dr : Nat → Int32) (x : Nat) (t : Int32) : Bool := decide (aw x = 0) && decide (tb x = t) && decide (dr x = 0)
def px_eaS (od aw tb md dr : Nat → Int32) (t : Int32) (k : Nat) (i : Nat) (acc : Int32) : Int32 :=
  if px_wants aw tb dr (od i).toNatClampNeg t && px_cf k (md (od i).toNatClampNeg) then acc ||| (1 <<< (od i &&& 31)) else acc
def px_ea (n : Nat) (od aw tb md dr : Nat → Int32) (t : Int32) (k pl : Nat) : Int32 := fw_it (px_eaS od aw tb md dr t k) (min n pl) 0
def px_mdS (od aw tb : Nat → Int32) (t : Int32) (i : Nat) (dr : Nat → Int32) : Nat → Int32 :=
  if px_wants aw tb dr (od i).toNatClampNeg t then upd dr (od i).toNatClampNeg 1 else dr
def px_md (n : Nat) (od aw tb dr : Nat → Int32) (t : Int32) : Nat → Int32 := fw_it (px_mdS od aw tb t) n dr
def px_low (ql : Nat → Int32) (x z : Nat) : Nat → Int32 := if ql x < nI (z + 1) then ql else upd ql x (nI z)
theorem px_nz {v : Int32} (h : v = 0 ∨ v = 1) : narrow .boolean (.int v) = .int v := by
  rcases h with rfl | rfl <;> decide
/-- locks on rows: four arrays -/
abbrev px_Q4 : Type := (Nat → Int32) × (Nat → Int32) × (Nat → Int32) × (Nat → Int32)
def px_sfP (ss rw sg : Nat → Int32) (x1 x2 x3 : Int32) (i : Nat) : Bool := decide (rw i = x2) && decide (ss i = x1) && !decide (sg i < x3)
def px_lcP (ss rw sg : Nat → Int32) (x1 x2 x3 : Int32) (i : Nat) : Bool := decide (rw i = x2) && !decide (ss i = x1) && (decide (x3 = 2) || decide (sg i = 2))
def px_lc (n : Nat) (lk ss rw sg : Nat → Int32) (x1 x2 x3 : Int32) : Int32 := match px_fst (px_lcP ss rw sg x1 x2 x3) n with
  | some i => lk i
  | none => -1
def px_cnt (P : Nat → Bool) : Nat → Nat
  | 0 => 0
  | n + 1 => if P n then px_cnt P n + 1 else px_cnt P n
theorem px_cnt_le {P : Nat → Bool} : ∀ n : Nat, px_cnt P n ≤ n
  | 0 => Nat.le_refl 0
  | n + 1 => by
    have := px_cnt_le (P := P) n
    simp only [px_cnt]
    split <;> omega
def px_rowP (rw : Nat → Int32) (x : Int32) (i : Nat) : Bool := decide (rw i = x)
def px_snP (rw : Nat → Int32) (x1 x2 : Int32) (i : Nat) : Bool := decide (rw i = x1) && decide (nI (px_cnt (px_rowP rw x1) i) = x2)
def px_sn (n : Nat) (lk rw sg : Nat → Int32) (x1 x2 : Int32) : Int32 := match px_fst (px_snP rw x1 x2) n with
  | some i => if sg i = 2 then lk i else -lk i
  | none => 0
def px_cp (i k : Nat) (q : px_Q4) : px_Q4 := (upd q.1 k (q.1 i), upd q.2.1 k (q.2.1 i), upd q.2.2.1 k (q.2.2.1 i), upd q.2.2.2 k (q.2.2.2 i))
def px_fwS (sel : px_Q4 → Nat → Int32) (x : Int32) (i : Nat) (st : Nat × px_Q4) : Nat × px_Q4 := if sel st.2 i = x then st else (st.1 + 1, px_cp i st.1 st.2)
def px_fw (sel : px_Q4 → Nat → Int32) (x : Int32) (n : Nat) (q : px_Q4) : Nat × px_Q4 := fw_it (px_fwS sel x) n (0, q)
def px_shS (n : Nat) (t : Nat) (q : px_Q4) : px_Q4 := px_cp (n - t - 1) (n - t) q
def px_sh (n p : Nat) (q : px_Q4) : px_Q4 := fw_it (px_shS n) (n - p) q
def px_put (p : Nat) (x1 x2 x3 x4 : Int32) (q : px_Q4) : px_Q4 := (upd q.1 p x1, upd q.2.1 p x2, upd q.2.2.1 p x3, upd q.2.2.2 p x4)
def px_foundAt (lk rw : Nat → Int32) (x1 x3 : Int32) (i : Nat) : Prop := lk i = x1 ∧ rw i = x3 ∧ ∀ j, j < i → ¬ x1 < lk j
def px_placeAt (n : Nat) (lk rw : Nat → Int32) (x1 x3 : Int32) (p : Nat) : Prop := (∀ j, j < p → ¬ x1 < lk j ∧ ¬ (lk j = x1 ∧ rw j = x3)) ∧ (p = n ∨ x1 < lk p)
end
section
/-! Pure words of the desk. -/
theorem px_isS_nI : ∀ x, x < 6 → px_isS (nI x) = true := by decide +kernel
theorem px_isT_nI : ∀ x, x < 8 → px_isT (nI x) = true := by decide +kernel
theorem px_isM_nI : ∀ x, x < 8 → px_isM (nI (x + 1)) = true := by decide +kernel
theorem px_fst_sat {P : Nat → Bool} {k : Nat} : ∀ {n : Nat}, px_fst P n = some k → P k = true
  | 0, h => by simp [px_fst] at h
  | n + 1, h => by
    cases e : px_fst P n with
    | some j =>
      have := px_fst_sat e
      simp [px_fst, e] at h
      rw [← h]; exact this
    | none =>
      simp [px_fst, e] at h
      rw [← h.2]; exact h.1
theorem px_fst_no {P : Nat → Bool} : ∀ {n : Nat}, px_fst P n = none → ∀ j, j < n → P j = false
  | 0, _, j, hj => absurd hj (Nat.not_lt_zero _)
  | n + 1, h, j, hj => by
    cases e : px_fst P n with
    | some i => simp [px_fst, e] at h
    | none =>
      simp [px_fst, e] at h
      by_cases q : j = n
      · subst q; exact h
      · exact px_fst_no e j (by omega)
theorem px_fst_min {P : Nat → Bool} {k : Nat} : ∀ {n : Nat}, px_fst P n = some k → ∀ j, j < k → P j = false
  | 0, h => by simp [px_fst] at h
  | n + 1, h => by
    intro j hj
    cases e : px_fst P n with
    | some i =>
      simp [px_fst, e] at h
      subst h
      exact px_fst_min e j hj
    | none =>
      simp [px_fst, e] at h
      obtain ⟨h1, rfl⟩ := h
      exact px_fst_no e j hj
def px_I (g n : Nat) (od aw tb md ql dr : Nat → Int32) : Prop :=
  g < 4000 ∧ n ≤ 6 ∧ (∀ k, k < n → ∃ j : Nat, j < 6 ∧ od k = nI j) ∧ (∀ x, x < 6 → ∃ y : Nat, y < 8 ∧ tb x = nI y) ∧ (∀ x, x < 6 → ∃ k : Nat, k < 9 ∧ md x = nI k) ∧ (∀ x, x < 6 → dr x = 0 ∨ dr x = 1) ∧ (∀ x, x < 6 → ∃ z : Nat, z < 8 ∧ ql x = nI z) ∧ (∀ k x, k < n → x < 6 → od k = nI x → aw x = 0 → ∃ j : Nat, j < 8 ∧ md x = nI (j + 1))
def px_wayS (lv : Nat → Int32) (x y k : Nat) (t : Nat) (acc : Int32) : Int32 := if decide (t = x) then acc else if px_sa lv t y k then acc ||| (1 <<< (nI t &&& 31)) else acc
def px_way (n : Nat) (lv od aw tb md dr : Nat → Int32) (x y k pl : Nat) : Int32 := fw_it (px_wayS lv x y k) 6 0 ||| px_ea n od aw tb md dr (nI y) k pl
def px_wo (g n : Nat) (rn lv od aw tb md dr : Nat → Int32) (x1 : Int32) : Int32 := match px_pl n od x1 with
  | none => 0
  | some p =>
    if aw x1.toNatClampNeg = 0 then
      if dr x1.toNatClampNeg = 0 then px_way n lv od aw tb md dr x1.toNatClampNeg (tb x1.toNatClampNeg).toNatClampNeg (md x1.toNatClampNeg).toNatClampNeg p else 0
    else if px_run g rn (aw x1.toNatClampNeg) = -1 then 0 else 1 <<< (px_run g rn (aw x1.toNatClampNeg) &&& 31)
def px_crS (w : Int32 → Int32) (t : Nat) (r : Int32) : Int32 := if px_has r (nI t) then r ||| w (nI t) else r
def px_crO (w : Int32 → Int32) (_ : Nat) (r : Int32) : Int32 := fw_it (px_crS w) 6 r
def px_cr (w : Int32 → Int32) (x1 first : Int32) : Bool := px_has (fw_it (px_crO w) 6 first) x1
end
section
abbrev rmX4_has : Room := { frames := 0, cells := 0, slots := 0, locals := 0 }
set_option maxHeartbeats 4000000 in
set_option maxRecDepth 100000 in
theorem c_X4_has (l : Launch) (G : va_G) (tys : List (ClassId × FieldType)) (tc : Nat) (ws : va_W) (x1 : Int32) (x2 : Int32)  : KC l yX4_has wsX4_has rmX4_has G tys tc [.int x1, .int x2] ws (fun v w' => v = some (.int (fw_b (px_has x1 x2))) ∧ w' = ws) := by
  refine KC.of (cc := cX4_has) (maxL := 2) (ret := some .boolean) (by decide) rfl (Nat.le_of_ble_eq_true rfl) ?_
  intro p e s m below meth c args A Q ls hx hb hml hown hts hK hZ hA hP hD hS hl hri hrv
  have hown : s.vm.findClass RX4 = some m.cls := hown
  have hl : lv_has ls 2 [(0, .int x1), (1, .int x2)] := hl
  refine lv_iload_n hx hb dX4_has_0 rfl (lv_at hl 0 rfl) ?_
  refine lv_iconst (v := 1) hx hb dX4_has_1 (by decide) ?_
  refine lv_iload_n hx hb dX4_has_2 rfl (lv_at hl 1 rfl) ?_
  refine lv_ishl hx hb dX4_has_3 ?_
  refine lv_iand hx hb dX4_has_4 ?_
  refine lv_if_eq (tgt := 12) hx hb dX4_has_5 (by decide) (fun c_5 => ?_) (fun c_5 => ?_)
  · refine lv_iconst (v := 0) hx hb dX4_has_12 (by decide) ?_
    exact hri _ rfl 0 _ _ _ _ _ (by decide) (⟨by simp [px_has, fw_b, c_5], rfl⟩) hP hD hS dX4_has_13
  · refine lv_iconst (v := 1) hx hb dX4_has_8 (by decide) ?_
    refine lv_goto (tgt := 13) hx hb dX4_has_9 (by decide) ?_
    exact hri _ rfl 1 _ _ _ _ _ (by decide) (⟨by simp [px_has, fw_b, c_5], rfl⟩) hP hD hS dX4_has_13

abbrev rmX4_isSession : Room := { frames := 0, cells := 0, slots := 0, locals := 0 }
set_option maxHeartbeats 4000000 in
set_option maxRecDepth 100000 in
theorem c_X4_isSession (l : Launch) (G : va_G) (tys : List (ClassId × FieldType)) (tc : Nat) (ws : va_W) (x1 : Int32)  : KC l yX4_isSession wsX4_isSession rmX4_isSession G tys tc [.int x1] ws (fun v w' => v = some (.int (fw_b (px_isS x1))) ∧ w' = ws) := by
  refine KC.of (cc := cX4_isSession) (maxL := 1) (ret := some .boolean) (by decide) rfl (Nat.le_of_ble_eq_true rfl) ?_
  intro p e s m below meth c args A Q ls hx hb hml hown hts hK hZ hA hP hD hS hl hri hrv
  have hown : s.vm.findClass RX4 = some m.cls := hown
  have hl : lv_has ls 1 [(0, .int x1)] := hl
  refine lv_iload_n hx hb dX4_isSession_0 rfl (lv_at hl 0 rfl) ?_
  refine lv_if_lt (tgt := 14) hx hb dX4_isSession_1 (by decide) (fun c_1 => ?_) (fun c_1 => ?_)
  · refine lv_iconst (v := 0) hx hb dX4_isSession_14 (by decide) ?_
    exact hri _ rfl 0 _ _ _ _ _ (by decide) (⟨by simp [px_isS, fw_b, c_1], rfl⟩) hP hD hS dX4_isSession_15
  · refine lv_iload_n hx hb dX4_isSession_4 rfl (lv_at hl 0 rfl) ?_
    refine lv_bipush (v := 6) hx hb dX4_isSession_5 (by decide) ?_
    refine lv_icmp_ge (tgt := 14) hx hb dX4_isSession_7 (by decide) (fun c_7 => ?_) (fun c_7 => ?_)
    · refine lv_iconst (v := 0) hx hb dX4_isSession_14 (by decide) ?_
      exact hri _ rfl 0 _ _ _ _ _ (by decide) (⟨by simp [px_isS, fw_b, c_1, c_7], rfl⟩) hP hD hS dX4_isSession_15
    · refine lv_iconst (v := 1) hx hb dX4_isSession_10 (by decide) ?_
      refine lv_goto (tgt := 15) hx hb dX4_isSession_11 (by decide) ?_
      exact hri _ rfl 1 _ _ _ _ _ (by decide) (⟨by simp [px_isS, fw_b, c_1, c_7], rfl⟩) hP hD hS dX4_isSession_15

abbrev rmX4_isTable : Room := { frames := 0, cells := 0, slots := 0, locals := 0 }
set_option maxHeartbeats 4000000 in
set_option maxRecDepth 100000 in
theorem c_X4_isTable (l : Launch) (G : va_G) (tys : List (ClassId × FieldType)) (tc : Nat) (ws : va_W) (x1 : Int32)  : KC l yX4_isTable wsX4_isTable rmX4_isTable G tys tc [.int x1] ws (fun v w' => v = some (.int (fw_b (px_isT x1))) ∧ w' = ws) := by
  refine KC.of (cc := cX4_isTable) (maxL := 1) (ret := some .boolean) (by decide) rfl (Nat.le_of_ble_eq_true rfl) ?_
  intro p e s m below meth c args A Q ls hx hb hml hown hts hK hZ hA hP hD hS hl hri hrv
  have hown : s.vm.findClass RX4 = some m.cls := hown
  have hl : lv_has ls 1 [(0, .int x1)] := hl
  refine lv_iload_n hx hb dX4_isTable_0 rfl (lv_at hl 0 rfl) ?_
  refine lv_if_lt (tgt := 14) hx hb dX4_isTable_1 (by decide) (fun c_1 => ?_) (fun c_1 => ?_)
  · refine lv_iconst (v := 0) hx hb dX4_isTable_14 (by decide) ?_
    exact hri _ rfl 0 _ _ _ _ _ (by decide) (⟨by simp [px_isT, fw_b, c_1], rfl⟩) hP hD hS dX4_isTable_15
  · refine lv_iload_n hx hb dX4_isTable_4 rfl (lv_at hl 0 rfl) ?_
    refine lv_bipush (v := 8) hx hb dX4_isTable_5 (by decide) ?_
    refine lv_icmp_ge (tgt := 14) hx hb dX4_isTable_7 (by decide) (fun c_7 => ?_) (fun c_7 => ?_)
    · refine lv_iconst (v := 0) hx hb dX4_isTable_14 (by decide) ?_
      exact hri _ rfl 0 _ _ _ _ _ (by decide) (⟨by simp [px_isT, fw_b, c_1, c_7], rfl⟩) hP hD hS dX4_isTable_15
    · refine lv_iconst (v := 1) hx hb dX4_isTable_10 (by decide) ?_
      refine lv_goto (tgt := 15) hx hb dX4_isTable_11 (by decide) ?_
      exact hri _ rfl 1 _ _ _ _ _ (by decide) (⟨by simp [px_isT, fw_b, c_1, c_7], rfl⟩) hP hD hS dX4_isTable_15

abbrev rmX4_isLevel : Room := { frames := 0, cells := 0, slots := 0, locals := 0 }
set_option maxHeartbeats 4000000 in
set_option maxRecDepth 100000 in
theorem c_X4_isLevel (l : Launch) (G : va_G) (tys : List (ClassId × FieldType)) (tc : Nat) (ws : va_W) (x1 : Int32)  : KC l yX4_isLevel wsX4_isLevel rmX4_isLevel G tys tc [.int x1] ws (fun v w' => v = some (.int (fw_b (px_isT x1))) ∧ w' = ws) := by
  refine KC.of (cc := cX4_isLevel) (maxL := 1) (ret := some .boolean) (by decide) rfl (Nat.le_of_ble_eq_true rfl) ?_
  intro p e s m below meth c args A Q ls hx hb hml hown hts hK hZ hA hP hD hS hl hri hrv
  have hown : s.vm.findClass RX4 = some m.cls := hown
  have hl : lv_has ls 1 [(0, .int x1)] := hl
  refine lv_iload_n hx hb dX4_isLevel_0 rfl (lv_at hl 0 rfl) ?_
  refine lv_if_lt (tgt := 14) hx hb dX4_isLevel_1 (by decide) (fun c_1 => ?_) (fun c_1 => ?_)
  · refine lv_iconst (v := 0) hx hb dX4_isLevel_14 (by decide) ?_
    exact hri _ rfl 0 _ _ _ _ _ (by decide) (⟨by simp [px_isT, fw_b, c_1], rfl⟩) hP hD hS dX4_isLevel_15
  · refine lv_iload_n hx hb dX4_isLevel_4 rfl (lv_at hl 0 rfl) ?_
    refine lv_bipush (v := 8) hx hb dX4_isLevel_5 (by decide) ?_
    refine lv_icmp_ge (tgt := 14) hx hb dX4_isLevel_7 (by decide) (fun c_7 => ?_) (fun c_7 => ?_)
    · refine lv_iconst (v := 0) hx hb dX4_isLevel_14 (by decide) ?_
      exact hri _ rfl 0 _ _ _ _ _ (by decide) (⟨by simp [px_isT, fw_b, c_1, c_7], rfl⟩) hP hD hS dX4_isLevel_15
    · refine lv_iconst (v := 1) hx hb dX4_isLevel_10 (by decide) ?_
      refine lv_goto (tgt := 15) hx hb dX4_isLevel_11 (by decide) ?_
      exact hri _ rfl 1 _ _ _ _ _ (by decide) (⟨by simp [px_isT, fw_b, c_1, c_7], rfl⟩) hP hD hS dX4_isLevel_15

abbrev rmX4_isRow : Room := { frames := 0, cells := 0, slots := 0, locals := 0 }
set_option maxHeartbeats 4000000 in
set_option maxRecDepth 100000 in
theorem c_X4_isRow (l : Launch) (G : va_G) (tys : List (ClassId × FieldType)) (tc : Nat) (ws : va_W) (x1 : Int32)  : KC l yX4_isRow wsX4_isRow rmX4_isRow G tys tc [.int x1] ws (fun v w' => v = some (.int (fw_b (px_isR x1))) ∧ w' = ws) := by
  refine KC.of (cc := cX4_isRow) (maxL := 1) (ret := some .boolean) (by decide) rfl (Nat.le_of_ble_eq_true rfl) ?_
  intro p e s m below meth c args A Q ls hx hb hml hown hts hK hZ hA hP hD hS hl hri hrv
  have hown : s.vm.findClass RX4 = some m.cls := hown
  have hl : lv_has ls 1 [(0, .int x1)] := hl
  refine lv_iload_n hx hb dX4_isRow_0 rfl (lv_at hl 0 rfl) ?_
  refine lv_if_lt (tgt := 15) hx hb dX4_isRow_1 (by decide) (fun c_1 => ?_) (fun c_1 => ?_)
  · refine lv_iconst (v := 0) hx hb dX4_isRow_15 (by decide) ?_
    exact hri _ rfl 0 _ _ _ _ _ (by decide) (⟨by simp [px_isR, fw_b, c_1], rfl⟩) hP hD hS dX4_isRow_16
  · refine lv_iload_n hx hb dX4_isRow_4 rfl (lv_at hl 0 rfl) ?_
    refine lv_sipush (v := 1200) hx hb dX4_isRow_5 (by decide) ?_
    refine lv_icmp_ge (tgt := 15) hx hb dX4_isRow_8 (by decide) (fun c_8 => ?_) (fun c_8 => ?_)
    · refine lv_iconst (v := 0) hx hb dX4_isRow_15 (by decide) ?_
      exact hri _ rfl 0 _ _ _ _ _ (by decide) (⟨by simp [px_isR, fw_b, c_1, c_8], rfl⟩) hP hD hS dX4_isRow_16
    · refine lv_iconst (v := 1) hx hb dX4_isRow_11 (by decide) ?_
      refine lv_goto (tgt := 16) hx hb dX4_isRow_12 (by decide) ?_
      exact hri _ rfl 1 _ _ _ _ _ (by decide) (⟨by simp [px_isR, fw_b, c_1, c_8], rfl⟩) hP hD hS dX4_isRow_16

abbrev rmX4_isMode : Room := { frames := 0, cells := 0, slots := 0, locals := 0 }
set_option maxHeartbeats 4000000 in
set_option maxRecDepth 100000 in
theorem c_X4_isMode (l : Launch) (G : va_G) (tys : List (ClassId × FieldType)) (tc : Nat) (ws : va_W) (x1 : Int32)  : KC l yX4_isMode wsX4_isMode rmX4_isMode G tys tc [.int x1] ws (fun v w' => v = some (.int (fw_b (px_isM x1))) ∧ w' = ws) := by
  refine KC.of (cc := cX4_isMode) (maxL := 1) (ret := some .boolean) (by decide) rfl (Nat.le_of_ble_eq_true rfl) ?_
  intro p e s m below meth c args A Q ls hx hb hml hown hts hK hZ hA hP hD hS hl hri hrv
  have hown : s.vm.findClass RX4 = some m.cls := hown
  have hl : lv_has ls 1 [(0, .int x1)] := hl
  refine lv_iload_n hx hb dX4_isMode_0 rfl (lv_at hl 0 rfl) ?_
  refine lv_iconst (v := 1) hx hb dX4_isMode_1 (by decide) ?_
  refine lv_icmp_lt (tgt := 15) hx hb dX4_isMode_2 (by decide) (fun c_2 => ?_) (fun c_2 => ?_)
  · refine lv_iconst (v := 0) hx hb dX4_isMode_15 (by decide) ?_
    exact hri _ rfl 0 _ _ _ _ _ (by decide) (⟨by simp [px_isM, fw_b, c_2], rfl⟩) hP hD hS dX4_isMode_16
  · refine lv_iload_n hx hb dX4_isMode_5 rfl (lv_at hl 0 rfl) ?_
    refine lv_bipush (v := 8) hx hb dX4_isMode_6 (by decide) ?_
    refine lv_icmp_gt (tgt := 15) hx hb dX4_isMode_8 (by decide) (fun c_8 => ?_) (fun c_8 => ?_)
    · refine lv_iconst (v := 0) hx hb dX4_isMode_15 (by decide) ?_
      exact hri _ rfl 0 _ _ _ _ _ (by decide) (⟨by simp [px_isM, fw_b, c_2, c_8], rfl⟩) hP hD hS dX4_isMode_16
    · refine lv_iconst (v := 1) hx hb dX4_isMode_11 (by decide) ?_
      refine lv_goto (tgt := 16) hx hb dX4_isMode_12 (by decide) ?_
      exact hri _ rfl 1 _ _ _ _ _ (by decide) (⟨by simp [px_isM, fw_b, c_2, c_8], rfl⟩) hP hD hS dX4_isMode_16

abbrev rmX4_conflict : Room := { frames := 1, cells := 0, slots := 0, locals := 21 }
set_option maxHeartbeats 4000000 in
set_option maxRecDepth 100000 in
theorem c_X4_conflict (l : Launch) (G : va_G) (tys : List (ClassId × FieldType)) (tc : Nat) (ws : va_W) (k1 : Nat) (x2 : Int32) (h1 : k1 < 9) : KC l yX4_conflict wsX4_conflict rmX4_conflict G tys tc [.int (nI k1), .int x2] ws (fun v w' => v = some (.int (fw_b (px_cf k1 x2))) ∧ w' = ws) := by
  refine KC.of (cc := cX4_conflict) (maxL := 2) (ret := some .boolean) (by decide) rfl (Nat.le_of_ble_eq_true rfl) ?_
  intro p e s m below meth c args A Q ls hx hb hml hown hts hK hZ hA hP hD hS hl hri hrv
  have hown : s.vm.findClass RX4 = some m.cls := hown
  have hl : lv_has ls 2 [(0, .int (nI k1)), (1, .int x2)] := hl
  refine va_gets hx hb hZ.2.2.1 hS hown (hts (.fieldLink RX4 172 "LockDesk" "CONFLICTS" "[I") (by decide +kernel)) (fun _ h9 => h9) dX4_conflict_0 ?_
  refine lv_iload_n hx hb dX4_conflict_3 rfl (lv_at hl 0 rfl) ?_
  refine va_ti hx hb hZ.2.2.2 hS (v := .int (fw_cfI k1)) (vp_in_nI (by omega) (by decide)) (by rw [nI_clamp (by omega)]; rfl) dX4_conflict_4 ?_
  refine lv_iload_n hx hb dX4_conflict_5 rfl (lv_at hl 1 rfl) ?_
  refine kS (As := [.int (fw_cfI k1), .int x2]) (rest := []) ⟨hx, hb, hml, hown, hts⟩ (c_X4_has l G tys tc ws (fw_cfI k1) x2) (va_cwS 2 hts gX4_conflict_X4_has rfl rfl rfl (by decide +kernel) ⟨by decide, by decide⟩) hK hZ hA hP hD hS rfl hl.1 rfl (Nat.le_of_ble_eq_true rfl) dX4_conflict_6 ⟨Nat.zero_le _, Nat.zero_le _⟩ (fun v w' H locs hp hP hD hS => ?_)
  obtain ⟨rfl, hw9⟩ := hp
  rw [hw9] at hP hD
  refine W.eq (g2 := F0 m 9 ls [.int (fw_b (px_has (fw_cfI k1) x2))]) rfl ?_
  exact hri _ rfl (fw_b (px_has (fw_cfI k1) x2)) _ _ _ _ _ (fw_bn _) (⟨rfl, rfl⟩) hP hD hS dX4_conflict_9

abbrev rmX0_cell : Room := { frames := 0, cells := 0, slots := 0, locals := 0 }
set_option maxHeartbeats 4000000 in
set_option maxRecDepth 100000 in
theorem c_X0_cell (l : Launch) (G : va_G) (tys : List (ClassId × FieldType)) (tc : Nat) (ws : va_W) (x : Nat) (y : Nat) (k : Nat)  : KC l yX0_cell wsX0_cell rmX0_cell G tys tc [.int (nI x), .int (nI y), .int (nI (k + 1))] ws (fun v w' => v = some (.int (nI (64 * x + 8 * y + k))) ∧ w' = ws) := by
  refine KC.of (cc := cX0_cell) (maxL := 3) (ret := some .int) (by decide) rfl (Nat.le_of_ble_eq_true rfl) ?_
  intro p e s m below meth c args A Q ls hx hb hml hown hts hK hZ hA hP hD hS hl hri hrv
  have hown : s.vm.findClass RX0 = some m.cls := hown
  have hl : lv_has ls 3 [(0, .int (nI x)), (1, .int (nI y)), (2, .int (nI (k + 1)))] := hl
  refine lv_iload_n hx hb dX0_cell_0 rfl (lv_at hl 0 rfl) ?_
  refine lv_bipush (v := 64) hx hb dX0_cell_1 (by decide) ?_
  refine lv_imul hx hb dX0_cell_3 ?_
  refine lv_iload_n hx hb dX0_cell_4 rfl (lv_at hl 1 rfl) ?_
  refine lv_bipush (v := 8) hx hb dX0_cell_5 (by decide) ?_
  refine lv_imul hx hb dX0_cell_7 ?_
  refine lv_iadd hx hb dX0_cell_8 ?_
  refine lv_iload_n hx hb dX0_cell_9 rfl (lv_at hl 2 rfl) ?_
  refine lv_iadd hx hb dX0_cell_10 ?_
  refine lv_iconst (v := 1) hx hb dX0_cell_11 (by decide) ?_
  refine lv_isub hx hb dX0_cell_12 ?_
  exact hri _ rfl (((((nI x) * 64) + ((nI y) * 8)) + (nI (k + 1))) - 1) _ _ _ _ _ (rfl) (⟨by rw [px_cellE], rfl⟩) hP hD hS dX0_cell_13

abbrev rmX0_levelOf : Room := { frames := 1, cells := 0, slots := 0, locals := 22 }
set_option maxHeartbeats 4000000 in
set_option maxRecDepth 100000 in
theorem c_X0_levelOf (l : Launch) (G : va_G) (cB cI cZ : ClassId) (tc : Nat) (a : Nat → Nat) (gv rc qc : Int32) (rn lv lk ss rw sg od aw tb md ql dr : Nat → Int32) (x : Nat) (y : Nat) (k : Nat) (hx6 : x < 6)(hy8 : y < 8)(hk8 : k < 8) : KC l yX0_levelOf wsX0_levelOf rmX0_levelOf G [(cB, .byte), (cI, .int), (cZ, .boolean)] tc [.ref (a 2), .int (nI x), .int (nI y), .int (nI (k + 1))] (wd a cB cI cZ gv rn lv rc lk ss rw sg qc od aw tb md ql dr) (fun v w' => v = some (.int (lv (64 * x + 8 * y + k))) ∧ w' = (wd a cB cI cZ gv rn lv rc lk ss rw sg qc od aw tb md ql dr)) := by
  refine KC.of (cc := cX0_levelOf) (maxL := 4) (ret := some .int) (by decide) rfl (Nat.le_of_ble_eq_true rfl) ?_
  intro p e s m below meth c args A Q ls hx hb hml hown hts hK hZ hA hP hD hS hl hri hrv
  have hown : s.vm.findClass RX0 = some m.cls := hown
  have hl : lv_has ls 4 [(0, .ref (a 2)), (1, .int (nI x)), (2, .int (nI y)), (3, .int (nI (k + 1)))] := hl
  have fl_11 := hts (.fieldLink RX0 11 "LockDesk$Holdings" "levels" "[B") (by decide +kernel)
  have hin0 : ∀ w ∈ wsX00, w ∈ wsX0_levelOf := by decide +kernel
  refine lv_aload_n hx hb dX0_levelOf_0 rfl (lv_at hl 0 rfl) ?_
  refine va_get (D := G) (ci := 0) (v := .ref (a 6)) (C := RX0) (T := TX0) (N := 1) hx hb hts hin0 hown hK hP 2 rfl rfl 0 (by decide) fl_11 (fun _ h9 => h9) rfl dX0_levelOf_1 ?_
  refine lv_iload_n hx hb dX0_levelOf_4 rfl (lv_at hl 1 rfl) ?_
  refine lv_iload_n hx hb dX0_levelOf_5 rfl (lv_at hl 2 rfl) ?_
  refine lv_iload_n hx hb dX0_levelOf_6 rfl (lv_at hl 3 rfl) ?_
  refine kS (As := [.int (nI x), .int (nI y), .int (nI (k + 1))]) (rest := [.ref (a 6)]) ⟨hx, hb, hml, hown, hts⟩ (c_X0_cell l G [(cB, .byte), (cI, .int), (cZ, .boolean)] tc (wd a cB cI cZ gv rn lv rc lk ss rw sg qc od aw tb md ql dr) x y k) (va_cwS 3 hts gX0_levelOf_X0_cell rfl rfl rfl (by decide +kernel) ⟨by decide, by decide⟩) hK hZ hA hP hD hS rfl hl.1 rfl (Nat.le_of_ble_eq_true rfl) dX0_levelOf_7 ⟨Nat.zero_le _, Nat.zero_le _⟩ (fun v w' H locs hp hP hD hS => ?_)
  obtain ⟨rfl, rfl⟩ := hp
  have hP : va_P G vwCl (wd a cB cI cZ gv rn lv rc lk ss rw sg qc od aw tb md ql dr) H := hP
  have hD : va_D A (wd a cB cI cZ gv rn lv rc lk ss rw sg qc od aw tb md ql dr) := hD
  refine W.eq (g2 := F0 m 10 ls [.int (nI (64 * x + 8 * y + k)), .ref (a 6)]) rfl ?_
  refine fw_bald (j := (64 * x + 8 * y + k)) (f := lv) hx hb hK hP 6 0 rfl rfl (by omega) (by decide) dX0_levelOf_10 ?_
  exact hri _ rfl (lv (64 * x + 8 * y + k)) _ _ _ _ _ (rfl) (⟨rfl, rfl⟩) hP hD hS dX0_levelOf_11

abbrev rmX0_take : Room := { frames := 1, cells := 0, slots := 0, locals := 22 }
set_option maxHeartbeats 4000000 in
set_option maxRecDepth 100000 in
theorem c_X0_take (l : Launch) (G : va_G) (cB cI cZ : ClassId) (tc : Nat) (a : Nat → Nat) (gv rc qc : Int32) (rn lv lk ss rw sg od aw tb md ql dr : Nat → Int32) (x : Nat) (y : Nat) (k : Nat) (z : Nat) (hx6 : x < 6)(hy8 : y < 8)(hk8 : k < 8)(hz8 : z < 8) : KC l yX0_take wsX0_take rmX0_take G [(cB, .byte), (cI, .int), (cZ, .boolean)] tc [.ref (a 2), .int (nI x), .int (nI z), .int (nI y), .int (nI (k + 1))] (wd a cB cI cZ gv rn lv rc lk ss rw sg qc od aw tb md ql dr) (fun v w' => v = none ∧ w' = (wd a cB cI cZ gv rn (upd lv (64 * x + 8 * y + k) (nI z)) rc lk ss rw sg qc od aw tb md ql dr)) := by
  refine KC.of (cc := cX0_take) (maxL := 5) (ret := none) (by decide) rfl (Nat.le_of_ble_eq_true rfl) ?_
  intro p e s m below meth c args A Q ls hx hb hml hown hts hK hZ hA hP hD hS hl hri hrv
  have hown : s.vm.findClass RX0 = some m.cls := hown
  have hl : lv_has ls 5 [(0, .ref (a 2)), (1, .int (nI x)), (2, .int (nI z)), (3, .int (nI y)), (4, .int (nI (k + 1)))] := hl
  have fl_11 := hts (.fieldLink RX0 11 "LockDesk$Holdings" "levels" "[B") (by decide +kernel)
  have hin0 : ∀ w ∈ wsX00, w ∈ wsX0_take := by decide +kernel
  refine lv_aload_n hx hb dX0_take_0 rfl (lv_at hl 0 rfl) ?_
  refine va_get (D := G) (ci := 0) (v := .ref (a 6)) (C := RX0) (T := TX0) (N := 1) hx hb hts hin0 hown hK hP 2 rfl rfl 0 (by decide) fl_11 (fun _ h9 => h9) rfl dX0_take_1 ?_
  refine lv_iload_n hx hb dX0_take_4 rfl (lv_at hl 1 rfl) ?_
  refine lv_iload_n hx hb dX0_take_5 rfl (lv_at hl 3 rfl) ?_
  refine lv_iload hx hb dX0_take_6 (lv_at hl 4 rfl) ?_
  refine kS (As := [.int (nI x), .int (nI y), .int (nI (k + 1))]) (rest := [.ref (a 6)]) ⟨hx, hb, hml, hown, hts⟩ (c_X0_cell l G [(cB, .byte), (cI, .int), (cZ, .boolean)] tc (wd a cB cI cZ gv rn lv rc lk ss rw sg qc od aw tb md ql dr) x y k) (va_cwS 3 hts gX0_take_X0_cell rfl rfl rfl (by decide +kernel) ⟨by decide, by decide⟩) hK hZ hA hP hD hS rfl hl.1 rfl (Nat.le_of_ble_eq_true rfl) dX0_take_8 ⟨Nat.zero_le _, Nat.zero_le _⟩ (fun v w' H locs hp hP hD hS => ?_)
  obtain ⟨rfl, rfl⟩ := hp
  have hP : va_P G vwCl (wd a cB cI cZ gv rn lv rc lk ss rw sg qc od aw tb md ql dr) H := hP
  have hD : va_D A (wd a cB cI cZ gv rn lv rc lk ss rw sg qc od aw tb md ql dr) := hD
  refine W.eq (g2 := F0 m 11 ls [.int (nI (64 * x + 8 * y + k)), .ref (a 6)]) rfl ?_
  refine lv_iload_n hx hb dX0_take_11 rfl (lv_at hl 2 rfl) ?_
  refine lv_i2b (v := nI z) hx hb dX0_take_12 (px_b8 z (by omega)) ?_
  refine fw_bast (j := (64 * x + 8 * y + k)) (f := lv) (x := nI z) hx hb hK hP hD hS 6 0 rfl rfl (by omega) (by decide) (px_n8 z (by omega)) dX0_take_13 (fun H locs hP hD hS => ?_)
  have hP : va_P G vwCl (wd a cB cI cZ gv rn (upd lv (64 * x + 8 * y + k) (nI z)) rc lk ss rw sg qc od aw tb md ql dr) H := hP
  have hD : va_D A (wd a cB cI cZ gv rn (upd lv (64 * x + 8 * y + k) (nI z)) rc lk ss rw sg qc od aw tb md ql dr) := hD
  exact hrv rfl _ _ _ _ _ (⟨rfl, rfl⟩) hP hD hS dX0_take_14

abbrev rmX0_standAgainst : Room := { frames := 2, cells := 0, slots := 0, locals := 42 }
set_option maxHeartbeats 4000000 in
set_option maxRecDepth 100000 in
theorem c_X0_standAgainst (l : Launch) (G : va_G) (cB cI cZ : ClassId) (tc : Nat) (a : Nat → Nat) (gv rc qc : Int32) (rn lv lk ss rw sg od aw tb md ql dr : Nat → Int32) (x : Nat) (y : Nat) (k : Nat) (hx6 : x < 6)(hy8 : y < 8)(hk9 : k < 9) : KC l yX0_standAgainst wsX0_standAgainst rmX0_standAgainst G [(cB, .byte), (cI, .int), (cZ, .boolean)] tc [.ref (a 2), .int (nI x), .int (nI y), .int (nI k)] (wd a cB cI cZ gv rn lv rc lk ss rw sg qc od aw tb md ql dr) (fun v w' => v = some (.int (fw_b (px_sa lv x y k))) ∧ w' = (wd a cB cI cZ gv rn lv rc lk ss rw sg qc od aw tb md ql dr)) := by
  refine KC.of (cc := cX0_standAgainst) (maxL := 5) (ret := some .boolean) (by decide) rfl (Nat.le_of_ble_eq_true rfl) ?_
  intro p e s m below meth c args A Q ls hx hb hml hown hts hK hZ hA hP hD hS hl hri hrv
  have hown : s.vm.findClass RX0 = some m.cls := hown
  have hl : lv_has ls 5 [(0, .ref (a 2)), (1, .int (nI x)), (2, .int (nI y)), (3, .int (nI k))] := hl
  have fl_11 := hts (.fieldLink RX0 11 "LockDesk$Holdings" "levels" "[B") (by decide +kernel)
  have hin0 : ∀ w ∈ wsX00, w ∈ wsX0_standAgainst := by decide +kernel
  refine lv_iconst (v := 1) hx hb dX0_standAgainst_0 (by decide) ?_
  refine lv_istore (lv' := [(4, .int 1), (0, .ref (a 2)), (1, .int (nI x)), (2, .int (nI y)), (3, .int (nI k))]) hx hb dX0_standAgainst_1 hl (by decide) rfl (fun ls hl => ?_)
  have lp_3 : ∀ (nf : Nat) (i : Nat) (H : Heap) (locs : List Loc) (ls : Array Slot), 8 - i < nf → (i ≤ 8) → (px_any (px_saP lv x y k) i = false) → va_P G vwCl (wd a cB cI cZ gv rn lv rc lk ss rw sg qc od aw tb md ql dr) H → va_D A (wd a cB cI cZ gv rn lv rc lk ss rw sg qc od aw tb md ql dr) → va_S A s.heap H locs → lv_has ls 5 [(4, .int (nI (i + 1))), (0, .ref (a 2)), (1, .int (nI x)), (2, .int (nI y)), (3, .int (nI k))] → W p l e rmX0_standAgainst s m args below meth c H locs 0 0 Q (F0 m 3 ls []) := by
    intro nf
    induction nf with
    | zero => intro i H locs ls h0; exact absurd h0 (Nat.not_lt_zero _)
    | succ nf_3 ih_3 =>
      intro i H locs ls hn_3 hi hno hP hD hS hl
      refine lv_iload hx hb dX0_standAgainst_3 (lv_at hl 0 rfl) ?_
      refine lv_bipush (v := 8) hx hb dX0_standAgainst_5 (by decide) ?_
      refine lv_icmp_gt (tgt := 43) hx hb dX0_standAgainst_7 (by decide) (fun c_7 => ?_) (fun c_7 => ?_)
      · have h8 : i = 8 := by
          have := fw_gt (a := 8) c_7 (by decide) (by omega)
          omega
        subst h8
        refine lv_iconst (v := 0) hx hb dX0_standAgainst_43 (by decide) ?_
        exact hri _ rfl 0 _ _ _ _ _ (by decide) (⟨by rw [px_sa, hno]; rfl, rfl⟩) hP hD hS dX0_standAgainst_44
      · have h8 : i < 8 := by
          have := fw_ngt (a := 8) c_7 (by decide) (by omega)
          omega
        refine lv_iload_n hx hb dX0_standAgainst_10 rfl (lv_at hl 4 rfl) ?_
        refine lv_iload hx hb dX0_standAgainst_11 (lv_at hl 0 rfl) ?_
        refine kSN (As := [.int (nI k), .int (nI (i + 1))]) (rest := []) ⟨hx, hb, hml, hown, hts⟩ (c_X4_conflict l G [(cB, .byte), (cI, .int), (cZ, .boolean)] tc (wd a cB cI cZ gv rn lv rc lk ss rw sg qc od aw tb md ql dr) k (nI (i + 1)) hk9) (⟨va_cnB 2 hts gX0_standAgainst_X4_conflict_n25 rfl rfl rfl (hZ.1) (hts (.initialized RX4) (by decide +kernel)) (by decide +kernel) ⟨by decide, by decide⟩, hts (.static yX4_conflict) (by decide +kernel), trivial⟩) hK hZ hA hP hD hS rfl hl.1 rfl (Nat.le_of_ble_eq_true rfl) dX0_standAgainst_13 ⟨Nat.zero_le _, Nat.zero_le _⟩ (fun v w' H locs hp hP hD hS => ?_)
        obtain ⟨rfl, rfl⟩ := hp
        have hP : va_P G vwCl (wd a cB cI cZ gv rn lv rc lk ss rw sg qc od aw tb md ql dr) H := hP
        have hD : va_D A (wd a cB cI cZ gv rn lv rc lk ss rw sg qc od aw tb md ql dr) := hD
        refine W.eq (g2 := F0 m 16 ls [.int (fw_b (px_cf k (nI (i + 1))))]) rfl ?_
        refine lv_if_eq (tgt := 37) hx hb dX0_standAgainst_16 (by decide) (fun c_16 => ?_) (fun c_16 => ?_)
        · have c_16 := fw_b0.mp c_16
          refine lv_iinc (v := nI ((i + 1) + 1)) (lv' := [(4, .int (nI ((i + 1) + 1))), (0, .ref (a 2)), (1, .int (nI x)), (2, .int (nI y)), (3, .int (nI k))]) hx hb dX0_standAgainst_37 hl (k := 0) rfl (fw_inc _) (by decide) rfl (fun ls hl => ?_)
          refine lv_goto (tgt := 3) hx hb dX0_standAgainst_40 (by decide) ?_
          exact ih_3 (i + 1) _ _ _ (by omega) (by omega) (px_anyS hno (by simp [px_saP, c_16])) hP hD hS (lv_sub hl [0, 1, 2, 3, 4] rfl)
        · have c_16 := fw_b1.mp c_16
          refine lv_aload_n hx hb dX0_standAgainst_19 rfl (lv_at hl 1 rfl) ?_
          refine va_get (D := G) (ci := 0) (v := .ref (a 6)) (C := RX0) (T := TX0) (N := 1) hx hb hts hin0 hown hK hP 2 rfl rfl 0 (by decide) fl_11 (fun _ h9 => h9) rfl dX0_standAgainst_20 ?_
          refine lv_iload_n hx hb dX0_standAgainst_23 rfl (lv_at hl 2 rfl) ?_
          refine lv_iload_n hx hb dX0_standAgainst_24 rfl (lv_at hl 3 rfl) ?_
          refine lv_iload hx hb dX0_standAgainst_25 (lv_at hl 0 rfl) ?_
          refine kS (As := [.int (nI x), .int (nI y), .int (nI (i + 1))]) (rest := [.ref (a 6)]) ⟨hx, hb, hml, hown, hts⟩ (c_X0_cell l G [(cB, .byte), (cI, .int), (cZ, .boolean)] tc (wd a cB cI cZ gv rn lv rc lk ss rw sg qc od aw tb md ql dr) x y i) (va_cwS 3 hts gX0_standAgainst_X0_cell rfl rfl rfl (by decide +kernel) ⟨by decide, by decide⟩) hK hZ hA hP hD hS rfl hl.1 rfl (Nat.le_of_ble_eq_true rfl) dX0_standAgainst_27 ⟨Nat.zero_le _, Nat.zero_le _⟩ (fun v w' H locs hp hP hD hS => ?_)
          obtain ⟨rfl, rfl⟩ := hp
          have hP : va_P G vwCl (wd a cB cI cZ gv rn lv rc lk ss rw sg qc od aw tb md ql dr) H := hP
          have hD : va_D A (wd a cB cI cZ gv rn lv rc lk ss rw sg qc od aw tb md ql dr) := hD
          refine W.eq (g2 := F0 m 30 ls [.int (nI (64 * x + 8 * y + i)), .ref (a 6)]) rfl ?_
          refine fw_bald (j := (64 * x + 8 * y + i)) (f := lv) hx hb hK hP 6 0 rfl rfl (by omega) (by decide) dX0_standAgainst_30 ?_
          refine lv_iconst (v := (-1)) hx hb dX0_standAgainst_31 (by decide) ?_
          refine lv_icmp_eq (tgt := 37) hx hb dX0_standAgainst_32 (by decide) (fun c_32 => ?_) (fun c_32 => ?_)
          · refine lv_iinc (v := nI ((i + 1) + 1)) (lv' := [(4, .int (nI ((i + 1) + 1))), (0, .ref (a 2)), (1, .int (nI x)), (2, .int (nI y)), (3, .int (nI k))]) hx hb dX0_standAgainst_37 hl (k := 0) rfl (fw_inc _) (by decide) rfl (fun ls hl => ?_)
            refine lv_goto (tgt := 3) hx hb dX0_standAgainst_40 (by decide) ?_
            exact ih_3 (i + 1) _ _ _ (by omega) (by omega) (px_anyS hno (by simp [px_saP, c_16, c_32])) hP hD hS (lv_sub hl [0, 1, 2, 3, 4] rfl)
          · refine lv_iconst (v := 1) hx hb dX0_standAgainst_35 (by decide) ?_
            exact hri _ rfl 1 _ _ _ _ _ (by decide) (⟨by rw [px_sa, px_anyT (i := i) (by simp [px_saP, c_16, c_32]) h8]; rfl, rfl⟩) hP hD hS dX0_standAgainst_36
  exact lp_3 _ 0 _ _ _ (Nat.lt_succ_self _) (by omega) (rfl) hP hD hS (lv_sub hl [0, 1, 2, 3, 4] rfl)

abbrev rmX0_replaceFrom : Room := { frames := 1, cells := 0, slots := 0, locals := 22 }
set_option maxHeartbeats 4000000 in
set_option maxRecDepth 100000 in
theorem c_X0_replaceFrom (l : Launch) (G : va_G) (cB cI cZ : ClassId) (tc : Nat) (a : Nat → Nat) (gv rc qc : Int32) (rn lv lk ss rw sg od aw tb md ql dr : Nat → Int32) (x : Nat) (lo : Int32) (lev : Int32) (hx6 : x < 6)(hb1 : lev.toInt8.toInt32 = lev) (hb2 : vp_nar .byte lev = lev) : KC l yX0_replaceFrom wsX0_replaceFrom rmX0_replaceFrom G [(cB, .byte), (cI, .int), (cZ, .boolean)] tc [.ref (a 2), .int (nI x), .int lo, .int lev] (wd a cB cI cZ gv rn lv rc lk ss rw sg qc od aw tb md ql dr) (fun v w' => v = none ∧ w' = (wd a cB cI cZ gv rn (px_rep x lo lev lv) rc lk ss rw sg qc od aw tb md ql dr)) := by
  refine KC.of (cc := cX0_replaceFrom) (maxL := 6) (ret := none) (by decide) rfl (Nat.le_of_ble_eq_true rfl) ?_
  intro p e s m below meth c args A Q ls hx hb hml hown hts hK hZ hA hP hD hS hl hri hrv
  have hown : s.vm.findClass RX0 = some m.cls := hown
  have hl : lv_has ls 6 [(0, .ref (a 2)), (1, .int (nI x)), (2, .int lo), (3, .int lev)] := hl
  have fl_11 := hts (.fieldLink RX0 11 "LockDesk$Holdings" "levels" "[B") (by decide +kernel)
  have hin0 : ∀ w ∈ wsX00, w ∈ wsX0_replaceFrom := by decide +kernel
  refine lv_iload_n hx hb dX0_replaceFrom_0 rfl (lv_at hl 1 rfl) ?_
  refine lv_iconst (v := 0) hx hb dX0_replaceFrom_1 (by decide) ?_
  refine lv_iconst (v := 1) hx hb dX0_replaceFrom_2 (by decide) ?_
  refine kS (As := [.int (nI x), .int 0, .int 1]) (rest := []) ⟨hx, hb, hml, hown, hts⟩ (c_X0_cell l G [(cB, .byte), (cI, .int), (cZ, .boolean)] tc (wd a cB cI cZ gv rn lv rc lk ss rw sg qc od aw tb md ql dr) x 0 0) (va_cwS 3 hts gX0_replaceFrom_X0_cell rfl rfl rfl (by decide +kernel) ⟨by decide, by decide⟩) hK hZ hA hP hD hS rfl hl.1 rfl (Nat.le_of_ble_eq_true rfl) dX0_replaceFrom_3 ⟨Nat.zero_le _, Nat.zero_le _⟩ (fun v w' H locs hp hP hD hS => ?_)
  obtain ⟨rfl, rfl⟩ := hp
  have hP : va_P G vwCl (wd a cB cI cZ gv rn lv rc lk ss rw sg qc od aw tb md ql dr) H := hP
  have hD : va_D A (wd a cB cI cZ gv rn lv rc lk ss rw sg qc od aw tb md ql dr) := hD
  refine W.eq (g2 := F0 m 6 ls [.int (nI (64 * x))]) rfl ?_
  refine lv_istore (lv' := [(4, .int (nI (64 * x))), (0, .ref (a 2)), (1, .int (nI x)), (2, .int lo), (3, .int lev)]) hx hb dX0_replaceFrom_6 hl (by decide) rfl (fun ls hl => ?_)
  refine lv_iload hx hb dX0_replaceFrom_8 (lv_at hl 0 rfl) ?_
  refine lv_istore (lv' := [(5, .int (nI (64 * x))), (4, .int (nI (64 * x))), (0, .ref (a 2)), (1, .int (nI x)), (2, .int lo), (3, .int lev)]) hx hb dX0_replaceFrom_10 hl (by decide) rfl (fun ls hl => ?_)
  have lp_12 : ∀ (nf : Nat) (i : Nat) (f : Nat → Int32) (H : Heap) (locs : List Loc) (ls : Array Slot), 64 - i < nf → (i ≤ 64) → (f = fw_it (px_repS x lo lev) i lv) → va_P G vwCl (wd a cB cI cZ gv rn f rc lk ss rw sg qc od aw tb md ql dr) H → va_D A (wd a cB cI cZ gv rn f rc lk ss rw sg qc od aw tb md ql dr) → va_S A s.heap H locs → lv_has ls 6 [(5, .int (nI (64 * x + i))), (4, .int (nI (64 * x))), (0, .ref (a 2)), (1, .int (nI x)), (2, .int lo), (3, .int lev)] → W p l e rmX0_replaceFrom s m args below meth c H locs 0 0 Q (F0 m 12 ls []) := by
    intro nf
    induction nf with
    | zero => intro i f H locs ls h0; exact absurd h0 (Nat.not_lt_zero _)
    | succ nf_12 ih_12 =>
      intro i f H locs ls hn_12 hi hf hP hD hS hl
      refine lv_iload hx hb dX0_replaceFrom_12 (lv_at hl 0 rfl) ?_
      refine lv_iload hx hb dX0_replaceFrom_14 (lv_at hl 1 rfl) ?_
      refine lv_bipush (v := 64) hx hb dX0_replaceFrom_16 (by decide) ?_
      refine lv_iadd hx hb dX0_replaceFrom_18 ?_
      refine lv_icmp_ge (tgt := 48) hx hb dX0_replaceFrom_19 (by decide) (fun c_19 => ?_) (fun c_19 => ?_)
      · have h64 : i = 64 := by
          have := fw_nle (by rw [px_e64] at c_19; exact c_19) (by omega) (by omega)
          omega
        subst h64
        exact hrv rfl _ _ _ _ _ (⟨rfl, by rw [hf]; rfl⟩) hP hD hS dX0_replaceFrom_48
      · have h64 : i < 64 := by
          have := fw_nlt (by rw [px_e64] at c_19; exact c_19) (by omega) (by omega)
          omega
        refine lv_aload_n hx hb dX0_replaceFrom_22 rfl (lv_at hl 2 rfl) ?_
        refine va_get (D := G) (ci := 0) (v := .ref (a 6)) (C := RX0) (T := TX0) (N := 1) hx hb hts hin0 hown hK hP 2 rfl rfl 0 (by decide) fl_11 (fun _ h9 => h9) rfl dX0_replaceFrom_23 ?_
        refine lv_iload hx hb dX0_replaceFrom_26 (lv_at hl 0 rfl) ?_
        refine fw_bald (j := (64 * x + i)) (f := f) hx hb hK hP 6 0 rfl rfl (by omega) (by decide) dX0_replaceFrom_28 ?_
        refine lv_iload_n hx hb dX0_replaceFrom_29 rfl (lv_at hl 4 rfl) ?_
        refine lv_icmp_lt (tgt := 42) hx hb dX0_replaceFrom_30 (by decide) (fun c_30 => ?_) (fun c_30 => ?_)
        · refine lv_iinc (v := nI (64 * x + (i + 1))) (lv' := [(5, .int (nI (64 * x + (i + 1)))), (4, .int (nI (64 * x))), (0, .ref (a 2)), (1, .int (nI x)), (2, .int lo), (3, .int lev)]) hx hb dX0_replaceFrom_42 hl (k := 0) rfl (fw_inc _) (by decide) rfl (fun ls hl => ?_)
          refine lv_goto (tgt := 12) hx hb dX0_replaceFrom_45 (by decide) ?_
          exact ih_12 (i + 1) f _ _ _ (by omega) (by omega) (by rw [fw_itS, ← hf]; simp [px_repS, c_30]) hP hD hS (lv_sub hl [0, 1, 2, 3, 4, 5] rfl)
        · refine lv_aload_n hx hb dX0_replaceFrom_33 rfl (lv_at hl 2 rfl) ?_
          refine va_get (D := G) (ci := 0) (v := .ref (a 6)) (C := RX0) (T := TX0) (N := 1) hx hb hts hin0 hown hK hP 2 rfl rfl 0 (by decide) fl_11 (fun _ h9 => h9) rfl dX0_replaceFrom_34 ?_
          refine lv_iload hx hb dX0_replaceFrom_37 (lv_at hl 0 rfl) ?_
          refine lv_iload_n hx hb dX0_replaceFrom_39 rfl (lv_at hl 5 rfl) ?_
          refine lv_i2b (v := lev) hx hb dX0_replaceFrom_40 (hb1) ?_
          refine fw_bast (j := (64 * x + i)) (f := f) (x := lev) hx hb hK hP hD hS 6 0 rfl rfl (by omega) (by decide) (hb2) dX0_replaceFrom_41 (fun H locs hP hD hS => ?_)
          have hP : va_P G vwCl (wd a cB cI cZ gv rn (upd f (64 * x + i) lev) rc lk ss rw sg qc od aw tb md ql dr) H := hP
          have hD : va_D A (wd a cB cI cZ gv rn (upd f (64 * x + i) lev) rc lk ss rw sg qc od aw tb md ql dr) := hD
          refine lv_iinc (v := nI (64 * x + (i + 1))) (lv' := [(5, .int (nI (64 * x + (i + 1)))), (4, .int (nI (64 * x))), (0, .ref (a 2)), (1, .int (nI x)), (2, .int lo), (3, .int lev)]) hx hb dX0_replaceFrom_42 hl (k := 0) rfl (fw_inc _) (by decide) rfl (fun ls hl => ?_)
          refine lv_goto (tgt := 12) hx hb dX0_replaceFrom_45 (by decide) ?_
          exact ih_12 (i + 1) (upd f (64 * x + i) lev) _ _ _ (by omega) (by omega) (by rw [fw_itS, ← hf]; simp [px_repS, c_30]) hP hD hS (lv_sub hl [0, 1, 2, 3, 4, 5] rfl)
  exact lp_12 _ 0 lv _ _ _ (Nat.lt_succ_self _) (by omega) (rfl) hP hD hS (lv_sub hl [0, 1, 2, 3, 4, 5] rfl)

abbrev rmX0_giveUp : Room := { frames := 2, cells := 0, slots := 0, locals := 47 }
set_option maxHeartbeats 4000000 in
set_option maxRecDepth 100000 in
theorem c_X0_giveUp (l : Launch) (G : va_G) (cB cI cZ : ClassId) (tc : Nat) (a : Nat → Nat) (gv rc qc : Int32) (rn lv lk ss rw sg od aw tb md ql dr : Nat → Int32) (x : Nat) (lo : Int32) (hx6 : x < 6) : KC l yX0_giveUp wsX0_giveUp rmX0_giveUp G [(cB, .byte), (cI, .int), (cZ, .boolean)] tc [.ref (a 2), .int (nI x), .int lo] (wd a cB cI cZ gv rn lv rc lk ss rw sg qc od aw tb md ql dr) (fun v w' => v = none ∧ w' = (wd a cB cI cZ gv rn (px_rep x lo (-1) lv) rc lk ss rw sg qc od aw tb md ql dr)) := by
  refine KC.of (cc := cX0_giveUp) (maxL := 3) (ret := none) (by decide) rfl (Nat.le_of_ble_eq_true rfl) ?_
  intro p e s m below meth c args A Q ls hx hb hml hown hts hK hZ hA hP hD hS hl hri hrv
  have hown : s.vm.findClass RX0 = some m.cls := hown
  have hl : lv_has ls 3 [(0, .ref (a 2)), (1, .int (nI x)), (2, .int lo)] := hl
  refine lv_aload_n hx hb dX0_giveUp_0 rfl (lv_at hl 0 rfl) ?_
  refine lv_iload_n hx hb dX0_giveUp_1 rfl (lv_at hl 1 rfl) ?_
  refine lv_iload_n hx hb dX0_giveUp_2 rfl (lv_at hl 2 rfl) ?_
  refine lv_iconst (v := (-1)) hx hb dX0_giveUp_3 (by decide) ?_
  refine kV (As := [.int (nI x), .int lo, .int (-1)]) (rest := []) ⟨hx, hb, hml, hown, hts⟩ (c_X0_replaceFrom l G cB cI cZ tc a gv rc qc rn lv lk ss rw sg od aw tb md ql dr x lo (-1) hx6 (by decide) (by decide)) (cwV 3 hts gX0_giveUp_X0_replaceFrom rfl rfl rfl (by decide +kernel) ⟨by decide, by decide⟩) hK hZ hA hP hD hS 2 0 rfl rfl rfl hl.1 rfl (Nat.le_of_ble_eq_true rfl) dX0_giveUp_4 ⟨Nat.zero_le _, Nat.zero_le _⟩ (fun v w' H locs hp hP hD hS => ?_)
  obtain ⟨rfl, rfl⟩ := hp
  have hP : va_P G vwCl (wd a cB cI cZ gv rn (px_rep x lo (-1) lv) rc lk ss rw sg qc od aw tb md ql dr) H := hP
  have hD : va_D A (wd a cB cI cZ gv rn (px_rep x lo (-1) lv) rc lk ss rw sg qc od aw tb md ql dr) := hD
  refine W.eq (g2 := F0 m 7 ls []) rfl ?_
  exact hrv rfl _ _ _ _ _ (⟨rfl, rfl⟩) hP hD hS dX0_giveUp_7

abbrev rmX0_lower : Room := { frames := 2, cells := 0, slots := 0, locals := 47 }
set_option maxHeartbeats 4000000 in
set_option maxRecDepth 100000 in
theorem c_X0_lower (l : Launch) (G : va_G) (cB cI cZ : ClassId) (tc : Nat) (a : Nat → Nat) (gv rc qc : Int32) (rn lv lk ss rw sg od aw tb md ql dr : Nat → Int32) (x : Nat) (z : Nat) (hx6 : x < 6)(hz7 : z < 7) : KC l yX0_lower wsX0_lower rmX0_lower G [(cB, .byte), (cI, .int), (cZ, .boolean)] tc [.ref (a 2), .int (nI x), .int (nI (z + 1))] (wd a cB cI cZ gv rn lv rc lk ss rw sg qc od aw tb md ql dr) (fun v w' => v = none ∧ w' = (wd a cB cI cZ gv rn (px_rep x (nI (z + 1)) (nI z) lv) rc lk ss rw sg qc od aw tb md ql dr)) := by
  refine KC.of (cc := cX0_lower) (maxL := 3) (ret := none) (by decide) rfl (Nat.le_of_ble_eq_true rfl) ?_
  intro p e s m below meth c args A Q ls hx hb hml hown hts hK hZ hA hP hD hS hl hri hrv
  have hown : s.vm.findClass RX0 = some m.cls := hown
  have hl : lv_has ls 3 [(0, .ref (a 2)), (1, .int (nI x)), (2, .int (nI (z + 1)))] := hl
  refine lv_aload_n hx hb dX0_lower_0 rfl (lv_at hl 0 rfl) ?_
  refine lv_iload_n hx hb dX0_lower_1 rfl (lv_at hl 1 rfl) ?_
  refine lv_iload_n hx hb dX0_lower_2 rfl (lv_at hl 2 rfl) ?_
  refine lv_iload_n hx hb dX0_lower_3 rfl (lv_at hl 2 rfl) ?_
  refine lv_iconst (v := 1) hx hb dX0_lower_4 (by decide) ?_
  refine lv_isub hx hb dX0_lower_5 ?_
  rw [nI_pred z]
  refine kV (As := [.int (nI x), .int (nI (z + 1)), .int (nI z)]) (rest := []) ⟨hx, hb, hml, hown, hts⟩ (c_X0_replaceFrom l G cB cI cZ tc a gv rc qc rn lv lk ss rw sg od aw tb md ql dr x (nI (z + 1)) (nI z) hx6 (px_b8 z (by omega)) (px_n8 z (by omega))) (cwV 3 hts gX0_lower_X0_replaceFrom rfl rfl rfl (by decide +kernel) ⟨by decide, by decide⟩) hK hZ hA hP hD hS 2 0 rfl rfl rfl hl.1 rfl (Nat.le_of_ble_eq_true rfl) dX0_lower_6 ⟨Nat.zero_le _, Nat.zero_le _⟩ (fun v w' H locs hp hP hD hS => ?_)
  obtain ⟨rfl, rfl⟩ := hp
  have hP : va_P G vwCl (wd a cB cI cZ gv rn (px_rep x (nI (z + 1)) (nI z) lv) rc lk ss rw sg qc od aw tb md ql dr) H := hP
  have hD : va_D A (wd a cB cI cZ gv rn (px_rep x (nI (z + 1)) (nI z) lv) rc lk ss rw sg qc od aw tb md ql dr) := hD
  refine W.eq (g2 := F0 m 9 ls []) rfl ?_
  exact hrv rfl _ _ _ _ _ (⟨rfl, rfl⟩) hP hD hS dX0_lower_9

abbrev rmX0_forgetTable : Room := { frames := 1, cells := 0, slots := 0, locals := 22 }
set_option maxHeartbeats 4000000 in
set_option maxRecDepth 100000 in
theorem c_X0_forgetTable (l : Launch) (G : va_G) (cB cI cZ : ClassId) (tc : Nat) (a : Nat → Nat) (gv rc qc : Int32) (rn lv lk ss rw sg od aw tb md ql dr : Nat → Int32) (y : Nat) (hy8 : y < 8) : KC l yX0_forgetTable wsX0_forgetTable rmX0_forgetTable G [(cB, .byte), (cI, .int), (cZ, .boolean)] tc [.ref (a 2), .int (nI y)] (wd a cB cI cZ gv rn lv rc lk ss rw sg qc od aw tb md ql dr) (fun v w' => v = none ∧ w' = (wd a cB cI cZ gv rn (px_fg y lv) rc lk ss rw sg qc od aw tb md ql dr)) := by
  refine KC.of (cc := cX0_forgetTable) (maxL := 4) (ret := none) (by decide) rfl (Nat.le_of_ble_eq_true rfl) ?_
  intro p e s m below meth c args A Q ls hx hb hml hown hts hK hZ hA hP hD hS hl hri hrv
  have hown : s.vm.findClass RX0 = some m.cls := hown
  have hl : lv_has ls 4 [(0, .ref (a 2)), (1, .int (nI y))] := hl
  have fl_11 := hts (.fieldLink RX0 11 "LockDesk$Holdings" "levels" "[B") (by decide +kernel)
  have hin0 : ∀ w ∈ wsX00, w ∈ wsX0_forgetTable := by decide +kernel
  refine lv_iconst (v := 0) hx hb dX0_forgetTable_0 (by decide) ?_
  refine lv_istore_n (lv' := [(2, .int 0), (0, .ref (a 2)), (1, .int (nI y))]) hx hb dX0_forgetTable_1 rfl hl (by decide) rfl (fun ls hl => ?_)
  have lp_2 : ∀ (nf : Nat) (x : Nat) (f : Nat → Int32) (H : Heap) (locs : List Loc) (ls : Array Slot), 6 - x < nf → (x ≤ 6) → (f = fw_it (px_fgO y) x lv) → va_P G vwCl (wd a cB cI cZ gv rn f rc lk ss rw sg qc od aw tb md ql dr) H → va_D A (wd a cB cI cZ gv rn f rc lk ss rw sg qc od aw tb md ql dr) → va_S A s.heap H locs → lv_has ls 4 [(2, .int (nI x)), (0, .ref (a 2)), (1, .int (nI y))] → W p l e rmX0_forgetTable s m args below meth c H locs 0 0 Q (F0 m 2 ls []) := by
    intro nf
    induction nf with
    | zero => intro x f H locs ls h0; exact absurd h0 (Nat.not_lt_zero _)
    | succ nf_2 ih_2 =>
      intro x f H locs ls hn_2 hx6 hf hP hD hS hl
      refine lv_iload_n hx hb dX0_forgetTable_2 rfl (lv_at hl 0 rfl) ?_
      refine lv_bipush (v := 6) hx hb dX0_forgetTable_3 (by decide) ?_
      refine lv_icmp_ge (tgt := 40) hx hb dX0_forgetTable_5 (by decide) (fun c_5 => ?_) (fun c_5 => ?_)
      · have h6 : x = 6 := by
          have := fw_nle (a := 6) c_5 (by omega) (by omega)
          omega
        subst h6
        exact hrv rfl _ _ _ _ _ (⟨rfl, by rw [hf]; rfl⟩) hP hD hS dX0_forgetTable_40
      · have h6 : x < 6 := by
          have := fw_nlt (a := 6) c_5 (by omega) (by omega)
          omega
        refine lv_iconst (v := 1) hx hb dX0_forgetTable_8 (by decide) ?_
        refine lv_istore_n (lv' := [(3, .int 1), (2, .int (nI x)), (0, .ref (a 2)), (1, .int (nI y))]) hx hb dX0_forgetTable_9 rfl hl (by decide) rfl (fun ls hl => ?_)
        have lp_10 : ∀ (nf : Nat) (k : Nat) (g : Nat → Int32) (H : Heap) (locs : List Loc) (ls : Array Slot), 8 - k < nf → (k ≤ 8) → (g = fw_it (px_fgS y x) k f) → va_P G vwCl (wd a cB cI cZ gv rn g rc lk ss rw sg qc od aw tb md ql dr) H → va_D A (wd a cB cI cZ gv rn g rc lk ss rw sg qc od aw tb md ql dr) → va_S A s.heap H locs → lv_has ls 4 [(3, .int (nI (k + 1))), (2, .int (nI x)), (0, .ref (a 2)), (1, .int (nI y))] → W p l e rmX0_forgetTable s m args below meth c H locs 0 0 Q (F0 m 10 ls []) := by
          intro nf
          induction nf with
          | zero => intro k g H locs ls h0; exact absurd h0 (Nat.not_lt_zero _)
          | succ nf_10 ih_10 =>
            intro k g H locs ls hn_10 hk8 hg hP hD hS hl
            refine lv_iload_n hx hb dX0_forgetTable_10 rfl (lv_at hl 0 rfl) ?_
            refine lv_bipush (v := 8) hx hb dX0_forgetTable_11 (by decide) ?_
            refine lv_icmp_gt (tgt := 34) hx hb dX0_forgetTable_13 (by decide) (fun c_13 => ?_) (fun c_13 => ?_)
            · have h8 : k = 8 := by
                have := fw_gt (a := 8) c_13 (by decide) (by omega)
                omega
              subst h8
              refine lv_iinc (v := nI (x + 1)) (lv' := [(2, .int (nI (x + 1))), (3, .int (nI (8 + 1))), (0, .ref (a 2)), (1, .int (nI y))]) hx hb dX0_forgetTable_34 hl (k := 1) rfl (fw_inc _) (by decide) rfl (fun ls hl => ?_)
              refine lv_goto (tgt := 2) hx hb dX0_forgetTable_37 (by decide) ?_
              exact ih_2 (x + 1) g _ _ _ (by omega) (by omega) (by rw [fw_itS, ← hf, hg]; rfl) hP hD hS (lv_sub hl [0, 2, 3] rfl)
            · have h8 : k < 8 := by
                have := fw_ngt (a := 8) c_13 (by decide) (by omega)
                omega
              refine lv_aload_n hx hb dX0_forgetTable_16 rfl (lv_at hl 2 rfl) ?_
              refine va_get (D := G) (ci := 0) (v := .ref (a 6)) (C := RX0) (T := TX0) (N := 1) hx hb hts hin0 hown hK hP 2 rfl rfl 0 (by decide) fl_11 (fun _ h9 => h9) rfl dX0_forgetTable_17 ?_
              refine lv_iload_n hx hb dX0_forgetTable_20 rfl (lv_at hl 1 rfl) ?_
              refine lv_iload_n hx hb dX0_forgetTable_21 rfl (lv_at hl 3 rfl) ?_
              refine lv_iload_n hx hb dX0_forgetTable_22 rfl (lv_at hl 0 rfl) ?_
              refine kS (As := [.int (nI x), .int (nI y), .int (nI (k + 1))]) (rest := [.ref (a 6)]) ⟨hx, hb, hml, hown, hts⟩ (c_X0_cell l G [(cB, .byte), (cI, .int), (cZ, .boolean)] tc (wd a cB cI cZ gv rn g rc lk ss rw sg qc od aw tb md ql dr) x y k) (va_cwS 3 hts gX0_forgetTable_X0_cell rfl rfl rfl (by decide +kernel) ⟨by decide, by decide⟩) hK hZ hA hP hD hS rfl hl.1 rfl (Nat.le_of_ble_eq_true rfl) dX0_forgetTable_23 ⟨Nat.zero_le _, Nat.zero_le _⟩ (fun v w' H locs hp hP hD hS => ?_)
              obtain ⟨rfl, rfl⟩ := hp
              have hP : va_P G vwCl (wd a cB cI cZ gv rn g rc lk ss rw sg qc od aw tb md ql dr) H := hP
              have hD : va_D A (wd a cB cI cZ gv rn g rc lk ss rw sg qc od aw tb md ql dr) := hD
              refine W.eq (g2 := F0 m 26 ls [.int (nI (64 * x + 8 * y + k)), .ref (a 6)]) rfl ?_
              refine lv_iconst (v := (-1)) hx hb dX0_forgetTable_26 (by decide) ?_
              refine fw_bast (j := (64 * x + 8 * y + k)) (f := g) (x := (-1)) hx hb hK hP hD hS 6 0 rfl rfl (by omega) (by decide) (by decide) dX0_forgetTable_27 (fun H locs hP hD hS => ?_)
              have hP : va_P G vwCl (wd a cB cI cZ gv rn (upd g (64 * x + 8 * y + k) (-1)) rc lk ss rw sg qc od aw tb md ql dr) H := hP
              have hD : va_D A (wd a cB cI cZ gv rn (upd g (64 * x + 8 * y + k) (-1)) rc lk ss rw sg qc od aw tb md ql dr) := hD
              refine lv_iinc (v := nI ((k + 1) + 1)) (lv' := [(3, .int (nI ((k + 1) + 1))), (2, .int (nI x)), (0, .ref (a 2)), (1, .int (nI y))]) hx hb dX0_forgetTable_28 hl (k := 0) rfl (fw_inc _) (by decide) rfl (fun ls hl => ?_)
              refine lv_goto (tgt := 10) hx hb dX0_forgetTable_31 (by decide) ?_
              exact ih_10 (k + 1) (upd g (64 * x + 8 * y + k) (-1)) _ _ _ (by omega) (by omega) (by rw [fw_itS, ← hg]; rfl) hP hD hS (lv_sub hl [0, 1, 2, 3] rfl)
        exact lp_10 _ 0 f _ _ _ (Nat.lt_succ_self _) (by omega) (rfl) hP hD hS (lv_sub hl [0, 1, 2, 3] rfl)
  exact lp_2 _ 0 lv _ _ _ (Nat.lt_succ_self _) (by omega) (rfl) hP hD hS (lv_sub hl [0, 1, 2] rfl)

abbrev rmX1_give : Room := { frames := 0, cells := 0, slots := 0, locals := 0 }
set_option maxHeartbeats 4000000 in
set_option maxRecDepth 100000 in
theorem c_X1_give (l : Launch) (G : va_G) (cB cI cZ : ClassId) (tc : Nat) (a : Nat → Nat) (rc qc : Int32) (rn lv lk ss rw sg od aw tb md ql dr : Nat → Int32) (g : Nat) (x : Nat) (hg : g < 4000)(hx6 : x < 6) : KC l yX1_give wsX1_give rmX1_give G [(cB, .byte), (cI, .int), (cZ, .boolean)] tc [.ref (a 1), .int (nI x)] (wd a cB cI cZ (nI g) rn lv rc lk ss rw sg qc od aw tb md ql dr) (fun v w' => v = some (.int (nI (g + 1))) ∧ w' = (wd a cB cI cZ (nI (g + 1)) (upd rn (g + 1) (nI x)) lv rc lk ss rw sg qc od aw tb md ql dr)) := by
  refine KC.of (cc := cX1_give) (maxL := 2) (ret := some .int) (by decide) rfl (Nat.le_of_ble_eq_true rfl) ?_
  intro p e s m below meth c args A Q ls hx hb hml hown hts hK hZ hA hP hD hS hl hri hrv
  have hown : s.vm.findClass RX1 = some m.cls := hown
  have hl : lv_has ls 2 [(0, .ref (a 1)), (1, .int (nI x))] := hl
  have fl_9 := hts (.fieldLink RX1 9 "LockDesk$Numbers" "runners" "[B") (by decide +kernel)
  have fl_15 := hts (.fieldLink RX1 15 "LockDesk$Numbers" "given" "I") (by decide +kernel)
  have hin1 : ∀ w ∈ wsX10, w ∈ wsX1_give := by decide +kernel
  refine lv_aload_n hx hb dX1_give_0 rfl (lv_at hl 0 rfl) ?_
  refine va_get (D := G) (ci := 1) (v := .int (nI g)) (C := RX1) (T := TX1) (N := 2) hx hb hts hin1 hown hK hP 1 rfl rfl 1 (by decide) fl_15 (fun _ h9 => h9) rfl dX1_give_1 ?_
  refine lv_sipush (v := 4000) hx hb dX1_give_4 (by decide) ?_
  refine lv_icmp_lt (tgt := 12) hx hb dX1_give_7 (by decide) (fun c_7 => ?_) (fun c_7 => absurd ((nI_ltI (b := 4000) (by omega) (by decide)).mpr hg) c_7)
  refine lv_aload_n hx hb dX1_give_12 rfl (lv_at hl 0 rfl) ?_
  refine lv_dup hx hb dX1_give_13 rfl ?_
  refine va_get (D := G) (ci := 1) (v := .int (nI g)) (C := RX1) (T := TX1) (N := 2) hx hb hts hin1 hown hK hP 1 rfl rfl 1 (by decide) fl_15 (fun _ h9 => h9) rfl dX1_give_14 ?_
  refine lv_iconst (v := 1) hx hb dX1_give_17 (by decide) ?_
  refine lv_iadd hx hb dX1_give_18 ?_
  rw [nI_1 g]
  refine va_put (D := G) (ci := 1) (v := .int (nI (g + 1))) (ty := .int) (C := RX1) (T := TX1) (N := 2) hx hb hts hin1 tyX1 tyX1_ok nmX1 hown hK hP hD hS 1 rfl rfl 1 (by decide) fl_15 (fun _ h9 => h9) rfl (by decide +kernel) rfl rfl (Nat.le_of_ble_eq_true rfl) dX1_give_19 (fun H locs hP hD hS => ?_)
  have hP : va_P G vwCl (wd a cB cI cZ (nI (g + 1)) rn lv rc lk ss rw sg qc od aw tb md ql dr) H := hP
  have hD : va_D A (wd a cB cI cZ (nI (g + 1)) rn lv rc lk ss rw sg qc od aw tb md ql dr) := hD
  refine lv_aload_n hx hb dX1_give_22 rfl (lv_at hl 0 rfl) ?_
  refine va_get (D := G) (ci := 1) (v := .ref (a 5)) (C := RX1) (T := TX1) (N := 2) hx hb hts hin1 hown hK hP 1 rfl rfl 0 (by decide) fl_9 (fun _ h9 => h9) rfl dX1_give_23 ?_
  refine lv_aload_n hx hb dX1_give_26 rfl (lv_at hl 0 rfl) ?_
  refine va_get (D := G) (ci := 1) (v := .int (nI (g + 1))) (C := RX1) (T := TX1) (N := 2) hx hb hts hin1 hown hK hP 1 rfl rfl 1 (by decide) fl_15 (fun _ h9 => h9) rfl dX1_give_27 ?_
  refine lv_iload_n hx hb dX1_give_30 rfl (lv_at hl 1 rfl) ?_
  refine lv_i2b (v := nI x) hx hb dX1_give_31 (px_b8 x (by omega)) ?_
  refine fw_bast (j := (g + 1)) (f := rn) (x := nI x) hx hb hK hP hD hS 5 0 rfl rfl (by omega) (by decide) (px_n8 x (by omega)) dX1_give_32 (fun H locs hP hD hS => ?_)
  have hP : va_P G vwCl (wd a cB cI cZ (nI (g + 1)) (upd rn (g + 1) (nI x)) lv rc lk ss rw sg qc od aw tb md ql dr) H := hP
  have hD : va_D A (wd a cB cI cZ (nI (g + 1)) (upd rn (g + 1) (nI x)) lv rc lk ss rw sg qc od aw tb md ql dr) := hD
  refine lv_aload_n hx hb dX1_give_33 rfl (lv_at hl 0 rfl) ?_
  refine va_get (D := G) (ci := 1) (v := .int (nI (g + 1))) (C := RX1) (T := TX1) (N := 2) hx hb hts hin1 hown hK hP 1 rfl rfl 1 (by decide) fl_15 (fun _ h9 => h9) rfl dX1_give_34 ?_
  exact hri _ rfl (nI (g + 1)) _ _ _ _ _ (rfl) (⟨rfl, rfl⟩) hP hD hS dX1_give_37

abbrev rmX1_wasGiven : Room := { frames := 0, cells := 0, slots := 0, locals := 0 }
set_option maxHeartbeats 4000000 in
set_option maxRecDepth 100000 in
theorem c_X1_wasGiven (l : Launch) (G : va_G) (cB cI cZ : ClassId) (tc : Nat) (a : Nat → Nat) (rc qc : Int32) (rn lv lk ss rw sg od aw tb md ql dr : Nat → Int32) (g : Nat) (x1 : Int32)  : KC l yX1_wasGiven wsX1_wasGiven rmX1_wasGiven G [(cB, .byte), (cI, .int), (cZ, .boolean)] tc [.ref (a 1), .int x1] (wd a cB cI cZ (nI g) rn lv rc lk ss rw sg qc od aw tb md ql dr) (fun v w' => v = some (.int (fw_b (px_was g x1))) ∧ w' = (wd a cB cI cZ (nI g) rn lv rc lk ss rw sg qc od aw tb md ql dr)) := by
  refine KC.of (cc := cX1_wasGiven) (maxL := 2) (ret := some .boolean) (by decide) rfl (Nat.le_of_ble_eq_true rfl) ?_
  intro p e s m below meth c args A Q ls hx hb hml hown hts hK hZ hA hP hD hS hl hri hrv
  have hown : s.vm.findClass RX1 = some m.cls := hown
  have hl : lv_has ls 2 [(0, .ref (a 1)), (1, .int x1)] := hl
  have fl_15 := hts (.fieldLink RX1 15 "LockDesk$Numbers" "given" "I") (by decide +kernel)
  have hin1 : ∀ w ∈ wsX10, w ∈ wsX1_wasGiven := by decide +kernel
  refine lv_iload_n hx hb dX1_wasGiven_0 rfl (lv_at hl 1 rfl) ?_
  refine lv_iconst (v := 1) hx hb dX1_wasGiven_1 (by decide) ?_
  refine lv_icmp_lt (tgt := 17) hx hb dX1_wasGiven_2 (by decide) (fun c_2 => ?_) (fun c_2 => ?_)
  · refine lv_iconst (v := 0) hx hb dX1_wasGiven_17 (by decide) ?_
    exact hri _ rfl 0 _ _ _ _ _ (by decide) (⟨by simp [px_was, fw_b, c_2], rfl⟩) hP hD hS dX1_wasGiven_18
  · refine lv_iload_n hx hb dX1_wasGiven_5 rfl (lv_at hl 1 rfl) ?_
    refine lv_aload_n hx hb dX1_wasGiven_6 rfl (lv_at hl 0 rfl) ?_
    refine va_get (D := G) (ci := 1) (v := .int (nI g)) (C := RX1) (T := TX1) (N := 2) hx hb hts hin1 hown hK hP 1 rfl rfl 1 (by decide) fl_15 (fun _ h9 => h9) rfl dX1_wasGiven_7 ?_
    refine lv_icmp_gt (tgt := 17) hx hb dX1_wasGiven_10 (by decide) (fun c_10 => ?_) (fun c_10 => ?_)
    · refine lv_iconst (v := 0) hx hb dX1_wasGiven_17 (by decide) ?_
      exact hri _ rfl 0 _ _ _ _ _ (by decide) (⟨by simp [px_was, fw_b, c_2, c_10], rfl⟩) hP hD hS dX1_wasGiven_18
    · refine lv_iconst (v := 1) hx hb dX1_wasGiven_13 (by decide) ?_
      refine lv_goto (tgt := 18) hx hb dX1_wasGiven_14 (by decide) ?_
      exact hri _ rfl 1 _ _ _ _ _ (by decide) (⟨by simp [px_was, fw_b, c_2, c_10], rfl⟩) hP hD hS dX1_wasGiven_18

abbrev rmX1_runnerOf : Room := { frames := 1, cells := 0, slots := 0, locals := 21 }
set_option maxHeartbeats 4000000 in
set_option maxRecDepth 100000 in
theorem c_X1_runnerOf (l : Launch) (G : va_G) (cB cI cZ : ClassId) (tc : Nat) (a : Nat → Nat) (rc qc : Int32) (rn lv lk ss rw sg od aw tb md ql dr : Nat → Int32) (g : Nat) (x1 : Int32) (hg : g < 4000) : KC l yX1_runnerOf wsX1_runnerOf rmX1_runnerOf G [(cB, .byte), (cI, .int), (cZ, .boolean)] tc [.ref (a 1), .int x1] (wd a cB cI cZ (nI g) rn lv rc lk ss rw sg qc od aw tb md ql dr) (fun v w' => v = some (.int (px_run g rn x1)) ∧ w' = (wd a cB cI cZ (nI g) rn lv rc lk ss rw sg qc od aw tb md ql dr)) := by
  refine KC.of (cc := cX1_runnerOf) (maxL := 2) (ret := some .int) (by decide) rfl (Nat.le_of_ble_eq_true rfl) ?_
  intro p e s m below meth c args A Q ls hx hb hml hown hts hK hZ hA hP hD hS hl hri hrv
  have hown : s.vm.findClass RX1 = some m.cls := hown
  have hl : lv_has ls 2 [(0, .ref (a 1)), (1, .int x1)] := hl
  have fl_9 := hts (.fieldLink RX1 9 "LockDesk$Numbers" "runners" "[B") (by decide +kernel)
  have hin1 : ∀ w ∈ wsX10, w ∈ wsX1_runnerOf := by decide +kernel
  refine lv_aload_n hx hb dX1_runnerOf_0 rfl (lv_at hl 0 rfl) ?_
  refine lv_iload_n hx hb dX1_runnerOf_1 rfl (lv_at hl 1 rfl) ?_
  refine kV (As := [.int x1]) (rest := []) ⟨hx, hb, hml, hown, hts⟩ (c_X1_wasGiven l G cB cI cZ tc a rc qc rn lv lk ss rw sg od aw tb md ql dr g x1) (cwV 1 hts gX1_runnerOf_X1_wasGiven rfl rfl rfl (by decide +kernel) ⟨by decide, by decide⟩) hK hZ hA hP hD hS 1 1 rfl rfl rfl hl.1 rfl (Nat.le_of_ble_eq_true rfl) dX1_runnerOf_2 ⟨Nat.zero_le _, Nat.zero_le _⟩ (fun v w' H locs hp hP hD hS => ?_)
  obtain ⟨rfl, rfl⟩ := hp
  have hP : va_P G vwCl (wd a cB cI cZ (nI g) rn lv rc lk ss rw sg qc od aw tb md ql dr) H := hP
  have hD : va_D A (wd a cB cI cZ (nI g) rn lv rc lk ss rw sg qc od aw tb md ql dr) := hD
  refine W.eq (g2 := F0 m 5 ls [.int (fw_b (px_was g x1))]) rfl ?_
  refine lv_if_eq (tgt := 17) hx hb dX1_runnerOf_5 (by decide) (fun c_5 => ?_) (fun c_5 => ?_)
  · have c_5 := fw_b0.mp c_5
    refine lv_iconst (v := (-1)) hx hb dX1_runnerOf_17 (by decide) ?_
    exact hri _ rfl (-1) _ _ _ _ _ (rfl) (⟨by simp [px_run, c_5], rfl⟩) hP hD hS dX1_runnerOf_18
  · have c_5 := fw_b1.mp c_5
    obtain ⟨k, hk1, hk2, rfl⟩ := px_was_of (by omega) c_5
    refine lv_aload_n hx hb dX1_runnerOf_8 rfl (lv_at hl 0 rfl) ?_
    refine va_get (D := G) (ci := 1) (v := .ref (a 5)) (C := RX1) (T := TX1) (N := 2) hx hb hts hin1 hown hK hP 1 rfl rfl 0 (by decide) fl_9 (fun _ h9 => h9) rfl dX1_runnerOf_9 ?_
    refine lv_iload_n hx hb dX1_runnerOf_12 rfl (lv_at hl 1 rfl) ?_
    refine fw_bald (j := k) (f := rn) hx hb hK hP 5 0 rfl rfl (by omega) (by decide) dX1_runnerOf_13 ?_
    refine lv_goto (tgt := 18) hx hb dX1_runnerOf_14 (by decide) ?_
    exact hri _ rfl (rn k) _ _ _ _ _ (rfl) (⟨by rw [px_run_nI (by omega) hk1 hk2], rfl⟩) hP hD hS dX1_runnerOf_18

abbrev rmX1_stop : Room := { frames := 1, cells := 0, slots := 0, locals := 21 }
set_option maxHeartbeats 4000000 in
set_option maxRecDepth 100000 in
theorem c_X1_stop (l : Launch) (G : va_G) (cB cI cZ : ClassId) (tc : Nat) (a : Nat → Nat) (rc qc : Int32) (rn lv lk ss rw sg od aw tb md ql dr : Nat → Int32) (g : Nat) (k : Nat) (hg : g < 4000)(hk1 : 1 ≤ k) (hk2 : k ≤ g) : KC l yX1_stop wsX1_stop rmX1_stop G [(cB, .byte), (cI, .int), (cZ, .boolean)] tc [.ref (a 1), .int (nI k)] (wd a cB cI cZ (nI g) rn lv rc lk ss rw sg qc od aw tb md ql dr) (fun v w' => v = none ∧ w' = (wd a cB cI cZ (nI g) (upd rn k (-1)) lv rc lk ss rw sg qc od aw tb md ql dr)) := by
  refine KC.of (cc := cX1_stop) (maxL := 2) (ret := none) (by decide) rfl (Nat.le_of_ble_eq_true rfl) ?_
  intro p e s m below meth c args A Q ls hx hb hml hown hts hK hZ hA hP hD hS hl hri hrv
  have hown : s.vm.findClass RX1 = some m.cls := hown
  have hl : lv_has ls 2 [(0, .ref (a 1)), (1, .int (nI k))] := hl
  have fl_9 := hts (.fieldLink RX1 9 "LockDesk$Numbers" "runners" "[B") (by decide +kernel)
  have hin1 : ∀ w ∈ wsX10, w ∈ wsX1_stop := by decide +kernel
  refine lv_aload_n hx hb dX1_stop_0 rfl (lv_at hl 0 rfl) ?_
  refine lv_iload_n hx hb dX1_stop_1 rfl (lv_at hl 1 rfl) ?_
  refine kV (As := [.int (nI k)]) (rest := []) ⟨hx, hb, hml, hown, hts⟩ (c_X1_wasGiven l G cB cI cZ tc a rc qc rn lv lk ss rw sg od aw tb md ql dr g (nI k)) (cwV 1 hts gX1_stop_X1_wasGiven rfl rfl rfl (by decide +kernel) ⟨by decide, by decide⟩) hK hZ hA hP hD hS 1 1 rfl rfl rfl hl.1 rfl (Nat.le_of_ble_eq_true rfl) dX1_stop_2 ⟨Nat.zero_le _, Nat.zero_le _⟩ (fun v w' H locs hp hP hD hS => ?_)
  obtain ⟨rfl, rfl⟩ := hp
  have hP : va_P G vwCl (wd a cB cI cZ (nI g) rn lv rc lk ss rw sg qc od aw tb md ql dr) H := hP
  have hD : va_D A (wd a cB cI cZ (nI g) rn lv rc lk ss rw sg qc od aw tb md ql dr) := hD
  refine W.eq (g2 := F0 m 5 ls [.int (fw_b (px_was g (nI k)))]) rfl ?_
  refine lv_if_eq (tgt := 15) hx hb dX1_stop_5 (by decide) (fun c_5 => False.elim (by rw [px_was_nI (by omega) hk1 hk2] at c_5; exact absurd c_5 (by decide))) (fun c_5 => ?_)
  have c_5 := fw_b1.mp c_5
  refine lv_aload_n hx hb dX1_stop_8 rfl (lv_at hl 0 rfl) ?_
  refine va_get (D := G) (ci := 1) (v := .ref (a 5)) (C := RX1) (T := TX1) (N := 2) hx hb hts hin1 hown hK hP 1 rfl rfl 0 (by decide) fl_9 (fun _ h9 => h9) rfl dX1_stop_9 ?_
  refine lv_iload_n hx hb dX1_stop_12 rfl (lv_at hl 1 rfl) ?_
  refine lv_iconst (v := (-1)) hx hb dX1_stop_13 (by decide) ?_
  refine fw_bast (j := k) (f := rn) (x := (-1)) hx hb hK hP hD hS 5 0 rfl rfl (by omega) (by decide) (by decide) dX1_stop_14 (fun H locs hP hD hS => ?_)
  have hP : va_P G vwCl (wd a cB cI cZ (nI g) (upd rn k (-1)) lv rc lk ss rw sg qc od aw tb md ql dr) H := hP
  have hD : va_D A (wd a cB cI cZ (nI g) (upd rn k (-1)) lv rc lk ss rw sg qc od aw tb md ql dr) := hD
  exact hrv rfl _ _ _ _ _ (⟨rfl, rfl⟩) hP hD hS dX1_stop_15
end
section
abbrev rmX2_size : Room := { frames := 0, cells := 0, slots := 0, locals := 0 }
set_option maxHeartbeats 4000000 in
set_option maxRecDepth 100000 in
theorem c_X2_size (l : Launch) (G : va_G) (cB cI cZ : ClassId) (tc : Nat) (a : Nat → Nat) (gv rc : Int32) (rn lv lk ss rw sg od aw tb md ql dr : Nat → Int32) (n : Nat)  : KC l yX2_size wsX2_size rmX2_size G [(cB, .byte), (cI, .int), (cZ, .boolean)] tc [.ref (a 4)] (wd a cB cI cZ gv rn lv rc lk ss rw sg (nI n) od aw tb md ql dr) (fun v w' => v = some (.int (nI n)) ∧ w' = (wd a cB cI cZ gv rn lv rc lk ss rw sg (nI n) od aw tb md ql dr)) := by
  refine KC.of (cc := cX2_size) (maxL := 1) (ret := some .int) (by decide) rfl (Nat.le_of_ble_eq_true rfl) ?_
  intro p e s m below meth c args A Q ls hx hb hml hown hts hK hZ hA hP hD hS hl hri hrv
  have hown : s.vm.findClass RX2 = some m.cls := hown
  have hl : lv_has ls 1 [(0, .ref (a 4))] := hl
  have fl_15 := hts (.fieldLink RX2 15 "LockDesk$Queue" "count" "I") (by decide +kernel)
  have hin2 : ∀ w ∈ wsX20, w ∈ wsX2_size := by decide +kernel
  refine lv_aload_n hx hb dX2_size_0 rfl (lv_at hl 0 rfl) ?_
  refine va_get (D := G) (ci := 2) (v := .int (nI n)) (C := RX2) (T := TX2) (N := 7) hx hb hts hin2 hown hK hP 4 rfl rfl 1 (by decide) fl_15 (fun _ h9 => h9) rfl dX2_size_1 ?_
  exact hri _ rfl (nI n) _ _ _ _ _ (rfl) (⟨rfl, rfl⟩) hP hD hS dX2_size_4

abbrev rmX2_sessionAt : Room := { frames := 0, cells := 0, slots := 0, locals := 0 }
set_option maxHeartbeats 4000000 in
set_option maxRecDepth 100000 in
theorem c_X2_sessionAt (l : Launch) (G : va_G) (cB cI cZ : ClassId) (tc : Nat) (a : Nat → Nat) (gv rc : Int32) (rn lv lk ss rw sg od aw tb md ql dr : Nat → Int32) (n : Nat) (x1 : Int32) (hn6 : n ≤ 6) : KC l yX2_sessionAt wsX2_sessionAt rmX2_sessionAt G [(cB, .byte), (cI, .int), (cZ, .boolean)] tc [.ref (a 4), .int x1] (wd a cB cI cZ gv rn lv rc lk ss rw sg (nI n) od aw tb md ql dr) (fun v w' => v = some (.int (px_at n od x1)) ∧ w' = (wd a cB cI cZ gv rn lv rc lk ss rw sg (nI n) od aw tb md ql dr)) := by
  refine KC.of (cc := cX2_sessionAt) (maxL := 2) (ret := some .int) (by decide) rfl (Nat.le_of_ble_eq_true rfl) ?_
  intro p e s m below meth c args A Q ls hx hb hml hown hts hK hZ hA hP hD hS hl hri hrv
  have hown : s.vm.findClass RX2 = some m.cls := hown
  have hl : lv_has ls 2 [(0, .ref (a 4)), (1, .int x1)] := hl
  have fl_9 := hts (.fieldLink RX2 9 "LockDesk$Queue" "order" "[I") (by decide +kernel)
  have fl_15 := hts (.fieldLink RX2 15 "LockDesk$Queue" "count" "I") (by decide +kernel)
  have hin2 : ∀ w ∈ wsX20, w ∈ wsX2_sessionAt := by decide +kernel
  refine lv_iload_n hx hb dX2_sessionAt_0 rfl (lv_at hl 1 rfl) ?_
  refine lv_if_lt (tgt := 21) hx hb dX2_sessionAt_1 (by decide) (fun c_1 => ?_) (fun c_1 => ?_)
  · refine lv_iconst (v := (-1)) hx hb dX2_sessionAt_21 (by decide) ?_
    exact hri _ rfl (-1) _ _ _ _ _ (rfl) (⟨by rw [px_at, if_pos c_1], rfl⟩) hP hD hS dX2_sessionAt_22
  · refine lv_iload_n hx hb dX2_sessionAt_4 rfl (lv_at hl 1 rfl) ?_
    refine lv_aload_n hx hb dX2_sessionAt_5 rfl (lv_at hl 0 rfl) ?_
    refine va_get (D := G) (ci := 2) (v := .int (nI n)) (C := RX2) (T := TX2) (N := 7) hx hb hts hin2 hown hK hP 4 rfl rfl 1 (by decide) fl_15 (fun _ h9 => h9) rfl dX2_sessionAt_6 ?_
    refine lv_icmp_ge (tgt := 21) hx hb dX2_sessionAt_9 (by decide) (fun c_9 => ?_) (fun c_9 => ?_)
    · refine lv_iconst (v := (-1)) hx hb dX2_sessionAt_21 (by decide) ?_
      exact hri _ rfl (-1) _ _ _ _ _ (rfl) (⟨by rw [px_at, if_neg c_1, if_pos c_9], rfl⟩) hP hD hS dX2_sessionAt_22
    · obtain ⟨k, hk, rfl⟩ := px_rng (by omega) c_1 c_9
      refine lv_aload_n hx hb dX2_sessionAt_12 rfl (lv_at hl 0 rfl) ?_
      refine va_get (D := G) (ci := 2) (v := .ref (a 11)) (C := RX2) (T := TX2) (N := 7) hx hb hts hin2 hown hK hP 4 rfl rfl 0 (by decide) fl_9 (fun _ h9 => h9) rfl dX2_sessionAt_13 ?_
      refine lv_iload_n hx hb dX2_sessionAt_16 rfl (lv_at hl 1 rfl) ?_
      refine fw_iald (j := k) (f := od) hx hb hK hP 11 1 rfl rfl (by omega) (by decide) dX2_sessionAt_17 ?_
      refine lv_goto (tgt := 22) hx hb dX2_sessionAt_18 (by decide) ?_
      exact hri _ rfl (od k) _ _ _ _ _ (rfl) (⟨by rw [px_at, if_neg c_1, if_neg c_9, nI_clamp (by omega)], rfl⟩) hP hD hS dX2_sessionAt_22

abbrev rmX2_placeOf : Room := { frames := 0, cells := 0, slots := 0, locals := 0 }
set_option maxHeartbeats 4000000 in
set_option maxRecDepth 100000 in
theorem c_X2_placeOf (l : Launch) (G : va_G) (cB cI cZ : ClassId) (tc : Nat) (a : Nat → Nat) (gv rc : Int32) (rn lv lk ss rw sg od aw tb md ql dr : Nat → Int32) (n : Nat) (x1 : Int32) (hn6 : n ≤ 6) : KC l yX2_placeOf wsX2_placeOf rmX2_placeOf G [(cB, .byte), (cI, .int), (cZ, .boolean)] tc [.ref (a 4), .int x1] (wd a cB cI cZ gv rn lv rc lk ss rw sg (nI n) od aw tb md ql dr) (fun v w' => v = some (.int (px_ix (px_pl n od x1))) ∧ w' = (wd a cB cI cZ gv rn lv rc lk ss rw sg (nI n) od aw tb md ql dr)) := by
  refine KC.of (cc := cX2_placeOf) (maxL := 3) (ret := some .int) (by decide) rfl (Nat.le_of_ble_eq_true rfl) ?_
  intro p e s m below meth c args A Q ls hx hb hml hown hts hK hZ hA hP hD hS hl hri hrv
  have hown : s.vm.findClass RX2 = some m.cls := hown
  have hl : lv_has ls 3 [(0, .ref (a 4)), (1, .int x1)] := hl
  have fl_9 := hts (.fieldLink RX2 9 "LockDesk$Queue" "order" "[I") (by decide +kernel)
  have fl_15 := hts (.fieldLink RX2 15 "LockDesk$Queue" "count" "I") (by decide +kernel)
  have hin2 : ∀ w ∈ wsX20, w ∈ wsX2_placeOf := by decide +kernel
  refine lv_iconst (v := 0) hx hb dX2_placeOf_0 (by decide) ?_
  refine lv_istore_n (lv' := [(2, .int 0), (0, .ref (a 4)), (1, .int x1)]) hx hb dX2_placeOf_1 rfl hl (by decide) rfl (fun ls hl => ?_)
  have lp_2 : ∀ (nf : Nat) (i : Nat) (H : Heap) (locs : List Loc) (ls : Array Slot), n - i < nf → (i ≤ n) → (px_fst (fun k => decide (od k = x1)) i = none) → va_P G vwCl (wd a cB cI cZ gv rn lv rc lk ss rw sg (nI n) od aw tb md ql dr) H → va_D A (wd a cB cI cZ gv rn lv rc lk ss rw sg (nI n) od aw tb md ql dr) → va_S A s.heap H locs → lv_has ls 3 [(2, .int (nI i)), (0, .ref (a 4)), (1, .int x1)] → W p l e rmX2_placeOf s m args below meth c H locs 0 0 Q (F0 m 2 ls []) := by
    intro nf
    induction nf with
    | zero => intro i H locs ls h0; exact absurd h0 (Nat.not_lt_zero _)
    | succ nf_2 ih_2 =>
      intro i H locs ls hn_2 hi hno hP hD hS hl
      refine lv_iload_n hx hb dX2_placeOf_2 rfl (lv_at hl 0 rfl) ?_
      refine lv_aload_n hx hb dX2_placeOf_3 rfl (lv_at hl 1 rfl) ?_
      refine va_get (D := G) (ci := 2) (v := .int (nI n)) (C := RX2) (T := TX2) (N := 7) hx hb hts hin2 hown hK hP 4 rfl rfl 1 (by decide) fl_15 (fun _ h9 => h9) rfl dX2_placeOf_4 ?_
      refine lv_icmp_ge (tgt := 28) hx hb dX2_placeOf_7 (by decide) (fun c_7 => ?_) (fun c_7 => ?_)
      · have hE : i = n := by
          have := fw_nle c_7 (by omega) (by omega)
          omega
        refine lv_iconst (v := (-1)) hx hb dX2_placeOf_28 (by decide) ?_
        exact hri _ rfl (-1) _ _ _ _ _ (rfl) (⟨by rw [px_pl, ← hE, hno]; rfl, rfl⟩) hP hD hS dX2_placeOf_29
      · have hL : i < n := by
          have := fw_nlt c_7 (by omega) (by omega)
          omega
        refine lv_aload_n hx hb dX2_placeOf_10 rfl (lv_at hl 1 rfl) ?_
        refine va_get (D := G) (ci := 2) (v := .ref (a 11)) (C := RX2) (T := TX2) (N := 7) hx hb hts hin2 hown hK hP 4 rfl rfl 0 (by decide) fl_9 (fun _ h9 => h9) rfl dX2_placeOf_11 ?_
        refine lv_iload_n hx hb dX2_placeOf_14 rfl (lv_at hl 0 rfl) ?_
        refine fw_iald (j := i) (f := od) hx hb hK hP 11 1 rfl rfl (by omega) (by decide) dX2_placeOf_15 ?_
        refine lv_iload_n hx hb dX2_placeOf_16 rfl (lv_at hl 2 rfl) ?_
        refine lv_icmp_ne (tgt := 22) hx hb dX2_placeOf_17 (by decide) (fun c_17 => ?_) (fun c_17 => ?_)
        · refine lv_iinc (v := nI (i + 1)) (lv' := [(2, .int (nI (i + 1))), (0, .ref (a 4)), (1, .int x1)]) hx hb dX2_placeOf_22 hl (k := 0) rfl (fw_inc _) (by decide) rfl (fun ls hl => ?_)
          refine lv_goto (tgt := 2) hx hb dX2_placeOf_25 (by decide) ?_
          exact ih_2 (i + 1) _ _ _ (by omega) (by omega) (px_fstS hno (by simp [c_17])) hP hD hS (lv_sub hl [0, 1, 2] rfl)
        · refine lv_iload_n hx hb dX2_placeOf_20 rfl (lv_at hl 0 rfl) ?_
          exact hri _ rfl (nI i) _ _ _ _ _ (rfl) (⟨by rw [px_pl, px_fstT hno (by simp [c_17]) hL]; rfl, rfl⟩) hP hD hS dX2_placeOf_21
  exact lp_2 _ 0 _ _ _ (Nat.lt_succ_self _) (by omega) (rfl) hP hD hS (lv_sub hl [0, 1, 2] rfl)

abbrev rmX2_contains : Room := { frames := 1, cells := 0, slots := 0, locals := 22 }
set_option maxHeartbeats 4000000 in
set_option maxRecDepth 100000 in
theorem c_X2_contains (l : Launch) (G : va_G) (cB cI cZ : ClassId) (tc : Nat) (a : Nat → Nat) (gv rc : Int32) (rn lv lk ss rw sg od aw tb md ql dr : Nat → Int32) (n : Nat) (x1 : Int32) (hn6 : n ≤ 6) : KC l yX2_contains wsX2_contains rmX2_contains G [(cB, .byte), (cI, .int), (cZ, .boolean)] tc [.ref (a 4), .int x1] (wd a cB cI cZ gv rn lv rc lk ss rw sg (nI n) od aw tb md ql dr) (fun v w' => v = some (.int (fw_b (px_pl n od x1).isSome)) ∧ w' = (wd a cB cI cZ gv rn lv rc lk ss rw sg (nI n) od aw tb md ql dr)) := by
  refine KC.of (cc := cX2_contains) (maxL := 2) (ret := some .boolean) (by decide) rfl (Nat.le_of_ble_eq_true rfl) ?_
  intro p e s m below meth c args A Q ls hx hb hml hown hts hK hZ hA hP hD hS hl hri hrv
  have hown : s.vm.findClass RX2 = some m.cls := hown
  have hl : lv_has ls 2 [(0, .ref (a 4)), (1, .int x1)] := hl
  refine lv_aload_n hx hb dX2_contains_0 rfl (lv_at hl 0 rfl) ?_
  refine lv_iload_n hx hb dX2_contains_1 rfl (lv_at hl 1 rfl) ?_
  refine kV (As := [.int x1]) (rest := []) ⟨hx, hb, hml, hown, hts⟩ (c_X2_placeOf l G cB cI cZ tc a gv rc rn lv lk ss rw sg od aw tb md ql dr n x1 hn6) (cwV 1 hts gX2_contains_X2_placeOf rfl rfl rfl (by decide +kernel) ⟨by decide, by decide⟩) hK hZ hA hP hD hS 4 2 rfl rfl rfl hl.1 rfl (Nat.le_of_ble_eq_true rfl) dX2_contains_2 ⟨Nat.zero_le _, Nat.zero_le _⟩ (fun v w' H locs hp hP hD hS => ?_)
  obtain ⟨rfl, rfl⟩ := hp
  have hP : va_P G vwCl (wd a cB cI cZ gv rn lv rc lk ss rw sg (nI n) od aw tb md ql dr) H := hP
  have hD : va_D A (wd a cB cI cZ gv rn lv rc lk ss rw sg (nI n) od aw tb md ql dr) := hD
  refine W.eq (g2 := F0 m 5 ls [.int (px_ix (px_pl n od x1))]) rfl ?_
  refine lv_iconst (v := (-1)) hx hb dX2_contains_5 (by decide) ?_
  refine lv_icmp_eq (tgt := 13) hx hb dX2_contains_6 (by decide) (fun c_6 => ?_) (fun c_6 => ?_)
  · have c_6 : px_pl n od x1 = none := px_ix_none hn6 c_6
    refine lv_iconst (v := 0) hx hb dX2_contains_13 (by decide) ?_
    exact hri _ rfl 0 _ _ _ _ _ (by decide) (⟨by rw [c_6]; rfl, rfl⟩) hP hD hS dX2_contains_14
  · obtain ⟨k, c_6⟩ := px_ix_some c_6
    have c_6 : px_pl n od x1 = some k := c_6
    refine lv_iconst (v := 1) hx hb dX2_contains_9 (by decide) ?_
    refine lv_goto (tgt := 14) hx hb dX2_contains_10 (by decide) ?_
    exact hri _ rfl 1 _ _ _ _ _ (by decide) (⟨by rw [c_6]; rfl, rfl⟩) hP hD hS dX2_contains_14

abbrev rmX2_append : Room := { frames := 0, cells := 0, slots := 0, locals := 0 }
set_option maxHeartbeats 4000000 in
set_option maxRecDepth 100000 in
theorem c_X2_append (l : Launch) (G : va_G) (cB cI cZ : ClassId) (tc : Nat) (a : Nat → Nat) (gv rc : Int32) (rn lv lk ss rw sg od aw tb md ql dr : Nat → Int32) (n : Nat) (x1 : Int32) (hn6 : n < 6) : KC l yX2_append wsX2_append rmX2_append G [(cB, .byte), (cI, .int), (cZ, .boolean)] tc [.ref (a 4), .int x1] (wd a cB cI cZ gv rn lv rc lk ss rw sg (nI n) od aw tb md ql dr) (fun v w' => v = none ∧ w' = (wd a cB cI cZ gv rn lv rc lk ss rw sg (nI (n + 1)) (upd od n x1) aw tb md ql dr)) := by
  refine KC.of (cc := cX2_append) (maxL := 2) (ret := none) (by decide) rfl (Nat.le_of_ble_eq_true rfl) ?_
  intro p e s m below meth c args A Q ls hx hb hml hown hts hK hZ hA hP hD hS hl hri hrv
  have hown : s.vm.findClass RX2 = some m.cls := hown
  have hl : lv_has ls 2 [(0, .ref (a 4)), (1, .int x1)] := hl
  have fl_9 := hts (.fieldLink RX2 9 "LockDesk$Queue" "order" "[I") (by decide +kernel)
  have fl_15 := hts (.fieldLink RX2 15 "LockDesk$Queue" "count" "I") (by decide +kernel)
  have hin2 : ∀ w ∈ wsX20, w ∈ wsX2_append := by decide +kernel
  refine lv_aload_n hx hb dX2_append_0 rfl (lv_at hl 0 rfl) ?_
  refine va_get (D := G) (ci := 2) (v := .int (nI n)) (C := RX2) (T := TX2) (N := 7) hx hb hts hin2 hown hK hP 4 rfl rfl 1 (by decide) fl_15 (fun _ h9 => h9) rfl dX2_append_1 ?_
  refine lv_bipush (v := 6) hx hb dX2_append_4 (by decide) ?_
  refine lv_icmp_ge (tgt := 29) hx hb dX2_append_6 (by decide) (fun c_6 => False.elim (by have := fw_nle (a := 6) c_6 (by omega) (by omega); omega)) (fun c_6 => ?_)
  refine lv_aload_n hx hb dX2_append_9 rfl (lv_at hl 0 rfl) ?_
  refine va_get (D := G) (ci := 2) (v := .ref (a 11)) (C := RX2) (T := TX2) (N := 7) hx hb hts hin2 hown hK hP 4 rfl rfl 0 (by decide) fl_9 (fun _ h9 => h9) rfl dX2_append_10 ?_
  refine lv_aload_n hx hb dX2_append_13 rfl (lv_at hl 0 rfl) ?_
  refine va_get (D := G) (ci := 2) (v := .int (nI n)) (C := RX2) (T := TX2) (N := 7) hx hb hts hin2 hown hK hP 4 rfl rfl 1 (by decide) fl_15 (fun _ h9 => h9) rfl dX2_append_14 ?_
  refine lv_iload_n hx hb dX2_append_17 rfl (lv_at hl 1 rfl) ?_
  refine fw_iast (j := n) (f := od) (x := x1) hx hb hK hP hD hS 11 1 rfl rfl (by omega) (by decide) dX2_append_18 (fun H locs hP hD hS => ?_)
  have hP : va_P G vwCl (wd a cB cI cZ gv rn lv rc lk ss rw sg (nI n) (upd od n x1) aw tb md ql dr) H := hP
  have hD : va_D A (wd a cB cI cZ gv rn lv rc lk ss rw sg (nI n) (upd od n x1) aw tb md ql dr) := hD
  refine lv_aload_n hx hb dX2_append_19 rfl (lv_at hl 0 rfl) ?_
  refine lv_dup hx hb dX2_append_20 rfl ?_
  refine va_get (D := G) (ci := 2) (v := .int (nI n)) (C := RX2) (T := TX2) (N := 7) hx hb hts hin2 hown hK hP 4 rfl rfl 1 (by decide) fl_15 (fun _ h9 => h9) rfl dX2_append_21 ?_
  refine lv_iconst (v := 1) hx hb dX2_append_24 (by decide) ?_
  refine lv_iadd hx hb dX2_append_25 ?_
  rw [nI_1 n]
  refine va_put (D := G) (ci := 2) (v := .int (nI (n + 1))) (ty := .int) (C := RX2) (T := TX2) (N := 7) hx hb hts hin2 tyX2 tyX2_ok nmX2 hown hK hP hD hS 4 rfl rfl 1 (by decide) fl_15 (fun _ h9 => h9) rfl (by decide +kernel) rfl rfl (Nat.le_of_ble_eq_true rfl) dX2_append_26 (fun H locs hP hD hS => ?_)
  have hP : va_P G vwCl (wd a cB cI cZ gv rn lv rc lk ss rw sg (nI (n + 1)) (upd od n x1) aw tb md ql dr) H := hP
  have hD : va_D A (wd a cB cI cZ gv rn lv rc lk ss rw sg (nI (n + 1)) (upd od n x1) aw tb md ql dr) := hD
  exact hrv rfl _ _ _ _ _ (⟨rfl, rfl⟩) hP hD hS dX2_append_29

abbrev rmX2_addForTable : Room := { frames := 1, cells := 0, slots := 0, locals := 21 }
set_option maxHeartbeats 4000000 in
set_option maxRecDepth 100000 in
theorem c_X2_addForTable (l : Launch) (G : va_G) (cB cI cZ : ClassId) (tc : Nat) (a : Nat → Nat) (gv rc : Int32) (rn lv lk ss rw sg od aw tb md ql dr : Nat → Int32) (n : Nat) (x : Nat) (x2 : Int32) (x3 : Int32) (x4 : Int32) (hn6 : n < 6) (hx6 : x < 6) : KC l yX2_addForTable wsX2_addForTable rmX2_addForTable G [(cB, .byte), (cI, .int), (cZ, .boolean)] tc [.ref (a 4), .int (nI x), .int x2, .int x3, .int x4] (wd a cB cI cZ gv rn lv rc lk ss rw sg (nI n) od aw tb md ql dr) (fun v w' => v = none ∧ w' = (wd a cB cI cZ gv rn lv rc lk ss rw sg (nI (n + 1)) (upd od n (nI x)) (upd aw x 0) (upd tb x x3) (upd md x x4) (upd ql x x2) (upd dr x 0))) := by
  refine KC.of (cc := cX2_addForTable) (maxL := 5) (ret := none) (by decide) rfl (Nat.le_of_ble_eq_true rfl) ?_
  intro p e s m below meth c args A Q ls hx hb hml hown hts hK hZ hA hP hD hS hl hri hrv
  have hown : s.vm.findClass RX2 = some m.cls := hown
  have hl : lv_has ls 5 [(0, .ref (a 4)), (1, .int (nI x)), (2, .int x2), (3, .int x3), (4, .int x4)] := hl
  have fl_19 := hts (.fieldLink RX2 19 "LockDesk$Queue" "awaited" "[I") (by decide +kernel)
  have fl_22 := hts (.fieldLink RX2 22 "LockDesk$Queue" "tables" "[I") (by decide +kernel)
  have fl_25 := hts (.fieldLink RX2 25 "LockDesk$Queue" "modes" "[I") (by decide +kernel)
  have fl_28 := hts (.fieldLink RX2 28 "LockDesk$Queue" "levels" "[I") (by decide +kernel)
  have fl_31 := hts (.fieldLink RX2 31 "LockDesk$Queue" "dropped" "[Z") (by decide +kernel)
  have hin2 : ∀ w ∈ wsX20, w ∈ wsX2_addForTable := by decide +kernel
  refine lv_aload_n hx hb dX2_addForTable_0 rfl (lv_at hl 0 rfl) ?_
  refine va_get (D := G) (ci := 2) (v := .ref (a 12)) (C := RX2) (T := TX2) (N := 7) hx hb hts hin2 hown hK hP 4 rfl rfl 2 (by decide) fl_19 (fun _ h9 => h9) rfl dX2_addForTable_1 ?_
  refine lv_iload_n hx hb dX2_addForTable_4 rfl (lv_at hl 1 rfl) ?_
  refine lv_iconst (v := 0) hx hb dX2_addForTable_5 (by decide) ?_
  refine fw_iast (j := x) (f := aw) (x := 0) hx hb hK hP hD hS 12 1 rfl rfl (by omega) (by decide) dX2_addForTable_6 (fun H locs hP hD hS => ?_)
  have hP : va_P G vwCl (wd a cB cI cZ gv rn lv rc lk ss rw sg (nI n) od (upd aw x 0) tb md ql dr) H := hP
  have hD : va_D A (wd a cB cI cZ gv rn lv rc lk ss rw sg (nI n) od (upd aw x 0) tb md ql dr) := hD
  refine lv_aload_n hx hb dX2_addForTable_7 rfl (lv_at hl 0 rfl) ?_
  refine va_get (D := G) (ci := 2) (v := .ref (a 13)) (C := RX2) (T := TX2) (N := 7) hx hb hts hin2 hown hK hP 4 rfl rfl 3 (by decide) fl_22 (fun _ h9 => h9) rfl dX2_addForTable_8 ?_
  refine lv_iload_n hx hb dX2_addForTable_11 rfl (lv_at hl 1 rfl) ?_
  refine lv_iload_n hx hb dX2_addForTable_12 rfl (lv_at hl 3 rfl) ?_
  refine fw_iast (j := x) (f := tb) (x := x3) hx hb hK hP hD hS 13 1 rfl rfl (by omega) (by decide) dX2_addForTable_13 (fun H locs hP hD hS => ?_)
  have hP : va_P G vwCl (wd a cB cI cZ gv rn lv rc lk ss rw sg (nI n) od (upd aw x 0) (upd tb x x3) md ql dr) H := hP
  have hD : va_D A (wd a cB cI cZ gv rn lv rc lk ss rw sg (nI n) od (upd aw x 0) (upd tb x x3) md ql dr) := hD
  refine lv_aload_n hx hb dX2_addForTable_14 rfl (lv_at hl 0 rfl) ?_
  refine va_get (D := G) (ci := 2) (v := .ref (a 14)) (C := RX2) (T := TX2) (N := 7) hx hb hts hin2 hown hK hP 4 rfl rfl 4 (by decide) fl_25 (fun _ h9 => h9) rfl dX2_addForTable_15 ?_
  refine lv_iload_n hx hb dX2_addForTable_18 rfl (lv_at hl 1 rfl) ?_
  refine lv_iload hx hb dX2_addForTable_19 (lv_at hl 4 rfl) ?_
  refine fw_iast (j := x) (f := md) (x := x4) hx hb hK hP hD hS 14 1 rfl rfl (by omega) (by decide) dX2_addForTable_21 (fun H locs hP hD hS => ?_)
  have hP : va_P G vwCl (wd a cB cI cZ gv rn lv rc lk ss rw sg (nI n) od (upd aw x 0) (upd tb x x3) (upd md x x4) ql dr) H := hP
  have hD : va_D A (wd a cB cI cZ gv rn lv rc lk ss rw sg (nI n) od (upd aw x 0) (upd tb x x3) (upd md x x4) ql dr) := hD
  refine lv_aload_n hx hb dX2_addForTable_22 rfl (lv_at hl 0 rfl) ?_
  refine va_get (D := G) (ci := 2) (v := .ref (a 15)) (C := RX2) (T := TX2) (N := 7) hx hb hts hin2 hown hK hP 4 rfl rfl 5 (by decide) fl_28 (fun _ h9 => h9) rfl dX2_addForTable_23 ?_
  refine lv_iload_n hx hb dX2_addForTable_26 rfl (lv_at hl 1 rfl) ?_
  refine lv_iload_n hx hb dX2_addForTable_27 rfl (lv_at hl 2 rfl) ?_
  refine fw_iast (j := x) (f := ql) (x := x2) hx hb hK hP hD hS 15 1 rfl rfl (by omega) (by decide) dX2_addForTable_28 (fun H locs hP hD hS => ?_)
  have hP : va_P G vwCl (wd a cB cI cZ gv rn lv rc lk ss rw sg (nI n) od (upd aw x 0) (upd tb x x3) (upd md x x4) (upd ql x x2) dr) H := hP
  have hD : va_D A (wd a cB cI cZ gv rn lv rc lk ss rw sg (nI n) od (upd aw x 0) (upd tb x x3) (upd md x x4) (upd ql x x2) dr) := hD
  refine lv_aload_n hx hb dX2_addForTable_29 rfl (lv_at hl 0 rfl) ?_
  refine va_get (D := G) (ci := 2) (v := .ref (a 16)) (C := RX2) (T := TX2) (N := 7) hx hb hts hin2 hown hK hP 4 rfl rfl 6 (by decide) fl_31 (fun _ h9 => h9) rfl dX2_addForTable_30 ?_
  refine lv_iload_n hx hb dX2_addForTable_33 rfl (lv_at hl 1 rfl) ?_
  refine lv_iconst (v := 0) hx hb dX2_addForTable_34 (by decide) ?_
  refine fw_zast (j := x) (f := dr) (x := 0) hx hb hK hP hD hS 16 2 rfl rfl (by omega) (by decide) (by decide) dX2_addForTable_35 (fun H locs hP hD hS => ?_)
  have hP : va_P G vwCl (wd a cB cI cZ gv rn lv rc lk ss rw sg (nI n) od (upd aw x 0) (upd tb x x3) (upd md x x4) (upd ql x x2) (upd dr x 0)) H := hP
  have hD : va_D A (wd a cB cI cZ gv rn lv rc lk ss rw sg (nI n) od (upd aw x 0) (upd tb x x3) (upd md x x4) (upd ql x x2) (upd dr x 0)) := hD
  refine lv_aload_n hx hb dX2_addForTable_36 rfl (lv_at hl 0 rfl) ?_
  refine lv_iload_n hx hb dX2_addForTable_37 rfl (lv_at hl 1 rfl) ?_
  refine kV (As := [.int (nI x)]) (rest := []) ⟨hx, hb, hml, hown, hts⟩ (c_X2_append l G cB cI cZ tc a gv rc rn lv lk ss rw sg od (upd aw x 0) (upd tb x x3) (upd md x x4) (upd ql x x2) (upd dr x 0) n (nI x) hn6) (cwV 1 hts gX2_addForTable_X2_append rfl rfl rfl (by decide +kernel) ⟨by decide, by decide⟩) hK hZ hA hP hD hS 4 2 rfl rfl rfl hl.1 rfl (Nat.le_of_ble_eq_true rfl) dX2_addForTable_38 ⟨Nat.zero_le _, Nat.zero_le _⟩ (fun v w' H locs hp hP hD hS => ?_)
  obtain ⟨rfl, rfl⟩ := hp
  have hP : va_P G vwCl (wd a cB cI cZ gv rn lv rc lk ss rw sg (nI (n + 1)) (upd od n (nI x)) (upd aw x 0) (upd tb x x3) (upd md x x4) (upd ql x x2) (upd dr x 0)) H := hP
  have hD : va_D A (wd a cB cI cZ gv rn lv rc lk ss rw sg (nI (n + 1)) (upd od n (nI x)) (upd aw x 0) (upd tb x x3) (upd md x x4) (upd ql x x2) (upd dr x 0)) := hD
  refine W.eq (g2 := F0 m 41 ls []) rfl ?_
  exact hrv rfl _ _ _ _ _ (⟨rfl, rfl⟩) hP hD hS dX2_addForTable_41

abbrev rmX2_addForNumber : Room := { frames := 1, cells := 0, slots := 0, locals := 21 }
set_option maxHeartbeats 4000000 in
set_option maxRecDepth 100000 in
theorem c_X2_addForNumber (l : Launch) (G : va_G) (cB cI cZ : ClassId) (tc : Nat) (a : Nat → Nat) (gv rc : Int32) (rn lv lk ss rw sg od aw tb md ql dr : Nat → Int32) (n : Nat) (x : Nat) (x2 : Int32) (hn6 : n < 6) (hx6 : x < 6) : KC l yX2_addForNumber wsX2_addForNumber rmX2_addForNumber G [(cB, .byte), (cI, .int), (cZ, .boolean)] tc [.ref (a 4), .int (nI x), .int x2] (wd a cB cI cZ gv rn lv rc lk ss rw sg (nI n) od aw tb md ql dr) (fun v w' => v = none ∧ w' = (wd a cB cI cZ gv rn lv rc lk ss rw sg (nI (n + 1)) (upd od n (nI x)) (upd aw x x2) tb md ql dr)) := by
  refine KC.of (cc := cX2_addForNumber) (maxL := 3) (ret := none) (by decide) rfl (Nat.le_of_ble_eq_true rfl) ?_
  intro p e s m below meth c args A Q ls hx hb hml hown hts hK hZ hA hP hD hS hl hri hrv
  have hown : s.vm.findClass RX2 = some m.cls := hown
  have hl : lv_has ls 3 [(0, .ref (a 4)), (1, .int (nI x)), (2, .int x2)] := hl
  have fl_19 := hts (.fieldLink RX2 19 "LockDesk$Queue" "awaited" "[I") (by decide +kernel)
  have hin2 : ∀ w ∈ wsX20, w ∈ wsX2_addForNumber := by decide +kernel
  refine lv_aload_n hx hb dX2_addForNumber_0 rfl (lv_at hl 0 rfl) ?_
  refine va_get (D := G) (ci := 2) (v := .ref (a 12)) (C := RX2) (T := TX2) (N := 7) hx hb hts hin2 hown hK hP 4 rfl rfl 2 (by decide) fl_19 (fun _ h9 => h9) rfl dX2_addForNumber_1 ?_
  refine lv_iload_n hx hb dX2_addForNumber_4 rfl (lv_at hl 1 rfl) ?_
  refine lv_iload_n hx hb dX2_addForNumber_5 rfl (lv_at hl 2 rfl) ?_
  refine fw_iast (j := x) (f := aw) (x := x2) hx hb hK hP hD hS 12 1 rfl rfl (by omega) (by decide) dX2_addForNumber_6 (fun H locs hP hD hS => ?_)
  have hP : va_P G vwCl (wd a cB cI cZ gv rn lv rc lk ss rw sg (nI n) od (upd aw x x2) tb md ql dr) H := hP
  have hD : va_D A (wd a cB cI cZ gv rn lv rc lk ss rw sg (nI n) od (upd aw x x2) tb md ql dr) := hD
  refine lv_aload_n hx hb dX2_addForNumber_7 rfl (lv_at hl 0 rfl) ?_
  refine lv_iload_n hx hb dX2_addForNumber_8 rfl (lv_at hl 1 rfl) ?_
  refine kV (As := [.int (nI x)]) (rest := []) ⟨hx, hb, hml, hown, hts⟩ (c_X2_append l G cB cI cZ tc a gv rc rn lv lk ss rw sg od (upd aw x x2) tb md ql dr n (nI x) hn6) (cwV 1 hts gX2_addForNumber_X2_append rfl rfl rfl (by decide +kernel) ⟨by decide, by decide⟩) hK hZ hA hP hD hS 4 2 rfl rfl rfl hl.1 rfl (Nat.le_of_ble_eq_true rfl) dX2_addForNumber_9 ⟨Nat.zero_le _, Nat.zero_le _⟩ (fun v w' H locs hp hP hD hS => ?_)
  obtain ⟨rfl, rfl⟩ := hp
  have hP : va_P G vwCl (wd a cB cI cZ gv rn lv rc lk ss rw sg (nI (n + 1)) (upd od n (nI x)) (upd aw x x2) tb md ql dr) H := hP
  have hD : va_D A (wd a cB cI cZ gv rn lv rc lk ss rw sg (nI (n + 1)) (upd od n (nI x)) (upd aw x x2) tb md ql dr) := hD
  refine W.eq (g2 := F0 m 12 ls []) rfl ?_
  exact hrv rfl _ _ _ _ _ (⟨rfl, rfl⟩) hP hD hS dX2_addForNumber_12

abbrev rmX2_remove : Room := { frames := 0, cells := 0, slots := 0, locals := 0 }
set_option maxHeartbeats 4000000 in
set_option maxRecDepth 100000 in
theorem c_X2_remove (l : Launch) (G : va_G) (cB cI cZ : ClassId) (tc : Nat) (a : Nat → Nat) (gv rc : Int32) (rn lv lk ss rw sg od aw tb md ql dr : Nat → Int32) (n : Nat) (x1 : Int32) (hn6 : n ≤ 6) : KC l yX2_remove wsX2_remove rmX2_remove G [(cB, .byte), (cI, .int), (cZ, .boolean)] tc [.ref (a 4), .int x1] (wd a cB cI cZ gv rn lv rc lk ss rw sg (nI n) od aw tb md ql dr) (fun v w' => v = none ∧ w' = (wd a cB cI cZ gv rn lv rc lk ss rw sg (nI (px_rm n od x1).1) ((px_rm n od x1).2) aw tb md ql dr)) := by
  refine KC.of (cc := cX2_remove) (maxL := 4) (ret := none) (by decide) rfl (Nat.le_of_ble_eq_true rfl) ?_
  intro p e s m below meth c args A Q ls hx hb hml hown hts hK hZ hA hP hD hS hl hri hrv
  have hown : s.vm.findClass RX2 = some m.cls := hown
  have hl : lv_has ls 4 [(0, .ref (a 4)), (1, .int x1)] := hl
  have fl_9 := hts (.fieldLink RX2 9 "LockDesk$Queue" "order" "[I") (by decide +kernel)
  have fl_15 := hts (.fieldLink RX2 15 "LockDesk$Queue" "count" "I") (by decide +kernel)
  have hin2 : ∀ w ∈ wsX20, w ∈ wsX2_remove := by decide +kernel
  refine lv_iconst (v := 0) hx hb dX2_remove_0 (by decide) ?_
  refine lv_istore_n (lv' := [(2, .int 0), (0, .ref (a 4)), (1, .int x1)]) hx hb dX2_remove_1 rfl hl (by decide) rfl (fun ls hl => ?_)
  refine lv_iconst (v := 0) hx hb dX2_remove_2 (by decide) ?_
  refine lv_istore_n (lv' := [(3, .int 0), (2, .int 0), (0, .ref (a 4)), (1, .int x1)]) hx hb dX2_remove_3 rfl hl (by decide) rfl (fun ls hl => ?_)
  have lp_4 : ∀ (nf : Nat) (i kp : Nat) (f : Nat → Int32) (H : Heap) (locs : List Loc) (ls : Array Slot), n - i < nf → (i ≤ n) → (kp ≤ i) → ((kp, f) = fw_it (px_rmS x1) i (0, od)) → va_P G vwCl (wd a cB cI cZ gv rn lv rc lk ss rw sg (nI n) f aw tb md ql dr) H → va_D A (wd a cB cI cZ gv rn lv rc lk ss rw sg (nI n) f aw tb md ql dr) → va_S A s.heap H locs → lv_has ls 4 [(3, .int (nI i)), (2, .int (nI kp)), (0, .ref (a 4)), (1, .int x1)] → W p l e rmX2_remove s m args below meth c H locs 0 0 Q (F0 m 4 ls []) := by
    intro nf
    induction nf with
    | zero => intro i kp f H locs ls h0; exact absurd h0 (Nat.not_lt_zero _)
    | succ nf_4 ih_4 =>
      intro i kp f H locs ls hn_4 hi hk hf hP hD hS hl
      refine lv_iload_n hx hb dX2_remove_4 rfl (lv_at hl 0 rfl) ?_
      refine lv_aload_n hx hb dX2_remove_5 rfl (lv_at hl 2 rfl) ?_
      refine va_get (D := G) (ci := 2) (v := .int (nI n)) (C := RX2) (T := TX2) (N := 7) hx hb hts hin2 hown hK hP 4 rfl rfl 1 (by decide) fl_15 (fun _ h9 => h9) rfl dX2_remove_6 ?_
      refine lv_icmp_ge (tgt := 43) hx hb dX2_remove_9 (by decide) (fun c_9 => ?_) (fun c_9 => ?_)
      · have hE : i = n := by
          have := fw_nle c_9 (by omega) (by omega)
          omega
        refine lv_aload_n hx hb dX2_remove_43 rfl (lv_at hl 2 rfl) ?_
        refine lv_iload_n hx hb dX2_remove_44 rfl (lv_at hl 1 rfl) ?_
        refine va_put (D := G) (ci := 2) (v := .int (nI kp)) (ty := .int) (C := RX2) (T := TX2) (N := 7) hx hb hts hin2 tyX2 tyX2_ok nmX2 hown hK hP hD hS 4 rfl rfl 1 (by decide) fl_15 (fun _ h9 => h9) rfl (by decide +kernel) rfl rfl (Nat.le_of_ble_eq_true rfl) dX2_remove_45 (fun H locs hP hD hS => ?_)
        have hP : va_P G vwCl (wd a cB cI cZ gv rn lv rc lk ss rw sg (nI kp) f aw tb md ql dr) H := hP
        have hD : va_D A (wd a cB cI cZ gv rn lv rc lk ss rw sg (nI kp) f aw tb md ql dr) := hD
        exact hrv rfl _ _ _ _ _ (⟨rfl, by rw [px_rm, ← hE, ← hf]⟩) hP hD hS dX2_remove_48
      · have hL : i < n := by
          have := fw_nlt c_9 (by omega) (by omega)
          omega
        refine lv_aload_n hx hb dX2_remove_12 rfl (lv_at hl 2 rfl) ?_
        refine va_get (D := G) (ci := 2) (v := .ref (a 11)) (C := RX2) (T := TX2) (N := 7) hx hb hts hin2 hown hK hP 4 rfl rfl 0 (by decide) fl_9 (fun _ h9 => h9) rfl dX2_remove_13 ?_
        refine lv_iload_n hx hb dX2_remove_16 rfl (lv_at hl 0 rfl) ?_
        refine fw_iald (j := i) (f := f) hx hb hK hP 11 1 rfl rfl (by omega) (by decide) dX2_remove_17 ?_
        refine lv_iload_n hx hb dX2_remove_18 rfl (lv_at hl 3 rfl) ?_
        refine lv_icmp_eq (tgt := 37) hx hb dX2_remove_19 (by decide) (fun c_19 => ?_) (fun c_19 => ?_)
        · refine lv_iinc (v := nI (i + 1)) (lv' := [(3, .int (nI (i + 1))), (2, .int (nI kp)), (0, .ref (a 4)), (1, .int x1)]) hx hb dX2_remove_37 hl (k := 0) rfl (fw_inc _) (by decide) rfl (fun ls hl => ?_)
          refine lv_goto (tgt := 4) hx hb dX2_remove_40 (by decide) ?_
          exact ih_4 (i + 1) kp f _ _ _ (by omega) (by omega) (by omega) (by rw [fw_itS, ← hf]; simp [px_rmS, c_19]) hP hD hS (lv_sub hl [0, 1, 2, 3] rfl)
        · refine lv_aload_n hx hb dX2_remove_22 rfl (lv_at hl 2 rfl) ?_
          refine va_get (D := G) (ci := 2) (v := .ref (a 11)) (C := RX2) (T := TX2) (N := 7) hx hb hts hin2 hown hK hP 4 rfl rfl 0 (by decide) fl_9 (fun _ h9 => h9) rfl dX2_remove_23 ?_
          refine lv_iload_n hx hb dX2_remove_26 rfl (lv_at hl 1 rfl) ?_
          refine lv_aload_n hx hb dX2_remove_27 rfl (lv_at hl 2 rfl) ?_
          refine va_get (D := G) (ci := 2) (v := .ref (a 11)) (C := RX2) (T := TX2) (N := 7) hx hb hts hin2 hown hK hP 4 rfl rfl 0 (by decide) fl_9 (fun _ h9 => h9) rfl dX2_remove_28 ?_
          refine lv_iload_n hx hb dX2_remove_31 rfl (lv_at hl 0 rfl) ?_
          refine fw_iald (j := i) (f := f) hx hb hK hP 11 1 rfl rfl (by omega) (by decide) dX2_remove_32 ?_
          refine fw_iast (j := kp) (f := f) (x := f i) hx hb hK hP hD hS 11 1 rfl rfl (by omega) (by decide) dX2_remove_33 (fun H locs hP hD hS => ?_)
          have hP : va_P G vwCl (wd a cB cI cZ gv rn lv rc lk ss rw sg (nI n) (upd f kp (f i)) aw tb md ql dr) H := hP
          have hD : va_D A (wd a cB cI cZ gv rn lv rc lk ss rw sg (nI n) (upd f kp (f i)) aw tb md ql dr) := hD
          refine lv_iinc (v := nI (kp + 1)) (lv' := [(2, .int (nI (kp + 1))), (3, .int (nI i)), (0, .ref (a 4)), (1, .int x1)]) hx hb dX2_remove_34 hl (k := 1) rfl (fw_inc _) (by decide) rfl (fun ls hl => ?_)
          refine lv_iinc (v := nI (i + 1)) (lv' := [(3, .int (nI (i + 1))), (2, .int (nI (kp + 1))), (0, .ref (a 4)), (1, .int x1)]) hx hb dX2_remove_37 hl (k := 1) rfl (fw_inc _) (by decide) rfl (fun ls hl => ?_)
          refine lv_goto (tgt := 4) hx hb dX2_remove_40 (by decide) ?_
          exact ih_4 (i + 1) (kp + 1) (upd f kp (f i)) _ _ _ (by omega) (by omega) (by omega) (by rw [fw_itS, ← hf]; simp [px_rmS, c_19]) hP hD hS (lv_sub hl [0, 1, 2, 3] rfl)
  exact lp_4 _ 0 0 od _ _ _ (Nat.lt_succ_self _) (by omega) (by omega) (rfl) hP hD hS (lv_sub hl [0, 1, 2, 3] rfl)

abbrev rmX2_wants : Room := { frames := 0, cells := 0, slots := 0, locals := 0 }
set_option maxHeartbeats 4000000 in
set_option maxRecDepth 100000 in
theorem c_X2_wants (l : Launch) (G : va_G) (cB cI cZ : ClassId) (tc : Nat) (a : Nat → Nat) (gv rc qc : Int32) (rn lv lk ss rw sg od aw tb md ql dr : Nat → Int32) (x : Nat) (x2 : Int32) (hx6 : x < 6) : KC l yX2_wants wsX2_wants rmX2_wants G [(cB, .byte), (cI, .int), (cZ, .boolean)] tc [.ref (a 4), .int (nI x), .int x2] (wd a cB cI cZ gv rn lv rc lk ss rw sg qc od aw tb md ql dr) (fun v w' => v = some (.int (fw_b (px_wants aw tb dr x x2))) ∧ w' = (wd a cB cI cZ gv rn lv rc lk ss rw sg qc od aw tb md ql dr)) := by
  refine KC.of (cc := cX2_wants) (maxL := 3) (ret := some .boolean) (by decide) rfl (Nat.le_of_ble_eq_true rfl) ?_
  intro p e s m below meth c args A Q ls hx hb hml hown hts hK hZ hA hP hD hS hl hri hrv
  have hown : s.vm.findClass RX2 = some m.cls := hown
  have hl : lv_has ls 3 [(0, .ref (a 4)), (1, .int (nI x)), (2, .int x2)] := hl
  have fl_19 := hts (.fieldLink RX2 19 "LockDesk$Queue" "awaited" "[I") (by decide +kernel)
  have fl_22 := hts (.fieldLink RX2 22 "LockDesk$Queue" "tables" "[I") (by decide +kernel)
  have fl_31 := hts (.fieldLink RX2 31 "LockDesk$Queue" "dropped" "[Z") (by decide +kernel)
  have hin2 : ∀ w ∈ wsX20, w ∈ wsX2_wants := by decide +kernel
  refine lv_aload_n hx hb dX2_wants_0 rfl (lv_at hl 0 rfl) ?_
  refine va_get (D := G) (ci := 2) (v := .ref (a 12)) (C := RX2) (T := TX2) (N := 7) hx hb hts hin2 hown hK hP 4 rfl rfl 2 (by decide) fl_19 (fun _ h9 => h9) rfl dX2_wants_1 ?_
  refine lv_iload_n hx hb dX2_wants_4 rfl (lv_at hl 1 rfl) ?_
  refine fw_iald (j := x) (f := aw) hx hb hK hP 12 1 rfl rfl (by omega) (by decide) dX2_wants_5 ?_
  refine lv_if_ne (tgt := 32) hx hb dX2_wants_6 (by decide) (fun c_6 => ?_) (fun c_6 => ?_)
  · refine lv_iconst (v := 0) hx hb dX2_wants_32 (by decide) ?_
    exact hri _ rfl 0 _ _ _ _ _ (by decide) (⟨by simp [px_wants, fw_b, c_6], rfl⟩) hP hD hS dX2_wants_33
  · refine lv_aload_n hx hb dX2_wants_9 rfl (lv_at hl 0 rfl) ?_
    refine va_get (D := G) (ci := 2) (v := .ref (a 13)) (C := RX2) (T := TX2) (N := 7) hx hb hts hin2 hown hK hP 4 rfl rfl 3 (by decide) fl_22 (fun _ h9 => h9) rfl dX2_wants_10 ?_
    refine lv_iload_n hx hb dX2_wants_13 rfl (lv_at hl 1 rfl) ?_
    refine fw_iald (j := x) (f := tb) hx hb hK hP 13 1 rfl rfl (by omega) (by decide) dX2_wants_14 ?_
    refine lv_iload_n hx hb dX2_wants_15 rfl (lv_at hl 2 rfl) ?_
    refine lv_icmp_ne (tgt := 32) hx hb dX2_wants_16 (by decide) (fun c_16 => ?_) (fun c_16 => ?_)
    · refine lv_iconst (v := 0) hx hb dX2_wants_32 (by decide) ?_
      exact hri _ rfl 0 _ _ _ _ _ (by decide) (⟨by simp [px_wants, fw_b, c_6, c_16], rfl⟩) hP hD hS dX2_wants_33
    · refine lv_aload_n hx hb dX2_wants_19 rfl (lv_at hl 0 rfl) ?_
      refine va_get (D := G) (ci := 2) (v := .ref (a 16)) (C := RX2) (T := TX2) (N := 7) hx hb hts hin2 hown hK hP 4 rfl rfl 6 (by decide) fl_31 (fun _ h9 => h9) rfl dX2_wants_20 ?_
      refine lv_iload_n hx hb dX2_wants_23 rfl (lv_at hl 1 rfl) ?_
      refine fw_zald (j := x) (f := dr) hx hb hK hP 16 2 rfl rfl (by omega) (by decide) dX2_wants_24 ?_
      refine lv_if_ne (tgt := 32) hx hb dX2_wants_25 (by decide) (fun c_25 => ?_) (fun c_25 => ?_)
      · refine lv_iconst (v := 0) hx hb dX2_wants_32 (by decide) ?_
        exact hri _ rfl 0 _ _ _ _ _ (by decide) (⟨by simp [px_wants, fw_b, c_6, c_16, c_25], rfl⟩) hP hD hS dX2_wants_33
      · refine lv_iconst (v := 1) hx hb dX2_wants_28 (by decide) ?_
        refine lv_goto (tgt := 33) hx hb dX2_wants_29 (by decide) ?_
        exact hri _ rfl 1 _ _ _ _ _ (by decide) (⟨by simp [px_wants, fw_b, c_6, c_16, c_25], rfl⟩) hP hD hS dX2_wants_33

abbrev rmX2_earlierAgainst : Room := { frames := 2, cells := 0, slots := 0, locals := 42 }
set_option maxHeartbeats 4000000 in
set_option maxRecDepth 100000 in
theorem c_X2_earlierAgainst (l : Launch) (G : va_G) (cB cI cZ : ClassId) (tc : Nat) (a : Nat → Nat) (gv rc : Int32) (rn lv lk ss rw sg od aw tb md ql dr : Nat → Int32) (n : Nat) (x1 : Int32) (k1 : Nat) (pl : Nat) (hn6 : n ≤ 6) (hk9 : k1 < 9) (hpl : pl ≤ 6) (hod : ∀ k, k < n → ∃ j : Nat, j < 6 ∧ od k = nI j) : KC l yX2_earlierAgainst wsX2_earlierAgainst rmX2_earlierAgainst G [(cB, .byte), (cI, .int), (cZ, .boolean)] tc [.ref (a 4), .int x1, .int (nI k1), .int (nI pl)] (wd a cB cI cZ gv rn lv rc lk ss rw sg (nI n) od aw tb md ql dr) (fun v w' => v = some (.int (px_ea n od aw tb md dr x1 k1 pl)) ∧ w' = (wd a cB cI cZ gv rn lv rc lk ss rw sg (nI n) od aw tb md ql dr)) := by
  refine KC.of (cc := cX2_earlierAgainst) (maxL := 7) (ret := some .int) (by decide) rfl (Nat.le_of_ble_eq_true rfl) ?_
  intro p e s m below meth c args A Q ls hx hb hml hown hts hK hZ hA hP hD hS hl hri hrv
  have hown : s.vm.findClass RX2 = some m.cls := hown
  have hl : lv_has ls 7 [(0, .ref (a 4)), (1, .int x1), (2, .int (nI k1)), (3, .int (nI pl))] := hl
  have fl_9 := hts (.fieldLink RX2 9 "LockDesk$Queue" "order" "[I") (by decide +kernel)
  have fl_15 := hts (.fieldLink RX2 15 "LockDesk$Queue" "count" "I") (by decide +kernel)
  have fl_25 := hts (.fieldLink RX2 25 "LockDesk$Queue" "modes" "[I") (by decide +kernel)
  have hin2 : ∀ w ∈ wsX20, w ∈ wsX2_earlierAgainst := by decide +kernel
  refine lv_iconst (v := 0) hx hb dX2_earlierAgainst_0 (by decide) ?_
  refine lv_istore (lv' := [(4, .int 0), (0, .ref (a 4)), (1, .int x1), (2, .int (nI k1)), (3, .int (nI pl))]) hx hb dX2_earlierAgainst_1 hl (by decide) rfl (fun ls hl => ?_)
  refine lv_iconst (v := 0) hx hb dX2_earlierAgainst_3 (by decide) ?_
  refine lv_istore (lv' := [(5, .int 0), (4, .int 0), (0, .ref (a 4)), (1, .int x1), (2, .int (nI k1)), (3, .int (nI pl))]) hx hb dX2_earlierAgainst_4 hl (by decide) rfl (fun ls hl => ?_)
  have lp_6 : ∀ (nf : Nat) (i : Nat) (acc : Int32) (H : Heap) (locs : List Loc) (ls : Array Slot), n - i < nf → (i ≤ n) → (i ≤ pl) → (acc = fw_it (px_eaS od aw tb md dr x1 k1) i 0) → va_P G vwCl (wd a cB cI cZ gv rn lv rc lk ss rw sg (nI n) od aw tb md ql dr) H → va_D A (wd a cB cI cZ gv rn lv rc lk ss rw sg (nI n) od aw tb md ql dr) → va_S A s.heap H locs → lv_has ls 7 [(5, .int (nI i)), (4, .int acc), (0, .ref (a 4)), (1, .int x1), (2, .int (nI k1)), (3, .int (nI pl))] → W p l e rmX2_earlierAgainst s m args below meth c H locs 0 0 Q (F0 m 6 ls []) := by
    intro nf
    induction nf with
    | zero => intro i acc H locs ls h0; exact absurd h0 (Nat.not_lt_zero _)
    | succ nf_6 ih_6 =>
      intro i acc H locs ls hn_6 hi hi2 hacc hP hD hS hl
      refine lv_iload hx hb dX2_earlierAgainst_6 (lv_at hl 0 rfl) ?_
      refine lv_aload_n hx hb dX2_earlierAgainst_8 rfl (lv_at hl 2 rfl) ?_
      refine va_get (D := G) (ci := 2) (v := .int (nI n)) (C := RX2) (T := TX2) (N := 7) hx hb hts hin2 hown hK hP 4 rfl rfl 1 (by decide) fl_15 (fun _ h9 => h9) rfl dX2_earlierAgainst_9 ?_
      refine lv_icmp_ge (tgt := 69) hx hb dX2_earlierAgainst_12 (by decide) (fun c_12 => ?_) (fun c_12 => ?_)
      · have hE : i = n := by
          have := fw_nle c_12 (by omega) (by omega)
          omega
        refine lv_iload hx hb dX2_earlierAgainst_69 (lv_at hl 1 rfl) ?_
        exact hri _ rfl acc _ _ _ _ _ (rfl) (⟨by rw [hacc, px_ea, show min n pl = i by omega], rfl⟩) hP hD hS dX2_earlierAgainst_71
      · have hL : i < n := by
          have := fw_nlt c_12 (by omega) (by omega)
          omega
        refine lv_iload hx hb dX2_earlierAgainst_15 (lv_at hl 0 rfl) ?_
        refine lv_iload_n hx hb dX2_earlierAgainst_17 rfl (lv_at hl 5 rfl) ?_
        refine lv_icmp_ge (tgt := 69) hx hb dX2_earlierAgainst_18 (by decide) (fun c_18 => ?_) (fun c_18 => ?_)
        · have hE : i = pl := by
            have := fw_nle c_18 (by omega) (by omega)
            omega
          refine lv_iload hx hb dX2_earlierAgainst_69 (lv_at hl 1 rfl) ?_
          exact hri _ rfl acc _ _ _ _ _ (rfl) (⟨by rw [hacc, px_ea, show min n pl = i by omega], rfl⟩) hP hD hS dX2_earlierAgainst_71
        · have hM : i < pl := by
            have := fw_nlt c_18 (by omega) (by omega)
            omega
          refine lv_aload_n hx hb dX2_earlierAgainst_21 rfl (lv_at hl 2 rfl) ?_
          refine va_get (D := G) (ci := 2) (v := .ref (a 11)) (C := RX2) (T := TX2) (N := 7) hx hb hts hin2 hown hK hP 4 rfl rfl 0 (by decide) fl_9 (fun _ h9 => h9) rfl dX2_earlierAgainst_22 ?_
          refine lv_iload hx hb dX2_earlierAgainst_25 (lv_at hl 0 rfl) ?_
          refine fw_iald (j := i) (f := od) hx hb hK hP 11 1 rfl rfl (by omega) (by decide) dX2_earlierAgainst_27 ?_
          obtain ⟨j, hj, ej⟩ := hod i hL
          rw [ej]
          refine lv_istore (lv' := [(6, .int (nI j)), (5, .int (nI i)), (4, .int acc), (0, .ref (a 4)), (1, .int x1), (2, .int (nI k1)), (3, .int (nI pl))]) hx hb dX2_earlierAgainst_28 hl (by decide) rfl (fun ls hl => ?_)
          refine lv_aload_n hx hb dX2_earlierAgainst_30 rfl (lv_at hl 3 rfl) ?_
          refine lv_iload hx hb dX2_earlierAgainst_31 (lv_at hl 0 rfl) ?_
          refine lv_iload_n hx hb dX2_earlierAgainst_33 rfl (lv_at hl 4 rfl) ?_
          refine kV (As := [.int (nI j), .int x1]) (rest := []) ⟨hx, hb, hml, hown, hts⟩ (c_X2_wants l G cB cI cZ tc a gv rc (nI n) rn lv lk ss rw sg od aw tb md ql dr j x1 hj) (cwV 2 hts gX2_earlierAgainst_X2_wants rfl rfl rfl (by decide +kernel) ⟨by decide, by decide⟩) hK hZ hA hP hD hS 4 2 rfl rfl rfl hl.1 rfl (Nat.le_of_ble_eq_true rfl) dX2_earlierAgainst_34 ⟨Nat.zero_le _, Nat.zero_le _⟩ (fun v w' H locs hp hP hD hS => ?_)
          obtain ⟨rfl, rfl⟩ := hp
          have hP : va_P G vwCl (wd a cB cI cZ gv rn lv rc lk ss rw sg (nI n) od aw tb md ql dr) H := hP
          have hD : va_D A (wd a cB cI cZ gv rn lv rc lk ss rw sg (nI n) od aw tb md ql dr) := hD
          refine W.eq (g2 := F0 m 37 ls [.int (fw_b (px_wants aw tb dr j x1))]) rfl ?_
          refine lv_if_eq (tgt := 63) hx hb dX2_earlierAgainst_37 (by decide) (fun c_37 => ?_) (fun c_37 => ?_)
          · have c_37 := fw_b0.mp c_37
            refine lv_iinc (v := nI (i + 1)) (lv' := [(5, .int (nI (i + 1))), (6, .int (nI j)), (4, .int acc), (0, .ref (a 4)), (1, .int x1), (2, .int (nI k1)), (3, .int (nI pl))]) hx hb dX2_earlierAgainst_63 hl (k := 1) rfl (fw_inc _) (by decide) rfl (fun ls hl => ?_)
            refine lv_goto (tgt := 6) hx hb dX2_earlierAgainst_66 (by decide) ?_
            exact ih_6 (i + 1) acc _ _ _ (by omega) (by omega) (by omega) (by rw [fw_itS, ← hacc]; simp [px_eaS, ej, nI_clamp (show j < 2 ^ 31 by omega), c_37]) hP hD hS (lv_sub hl [0, 2, 3, 4, 5, 6] rfl)
          · have c_37 := fw_b1.mp c_37
            refine lv_iload_n hx hb dX2_earlierAgainst_40 rfl (lv_at hl 5 rfl) ?_
            refine lv_aload_n hx hb dX2_earlierAgainst_41 rfl (lv_at hl 3 rfl) ?_
            refine va_get (D := G) (ci := 2) (v := .ref (a 14)) (C := RX2) (T := TX2) (N := 7) hx hb hts hin2 hown hK hP 4 rfl rfl 4 (by decide) fl_25 (fun _ h9 => h9) rfl dX2_earlierAgainst_42 ?_
            refine lv_iload hx hb dX2_earlierAgainst_45 (lv_at hl 0 rfl) ?_
            refine fw_iald (j := j) (f := md) hx hb hK hP 14 1 rfl rfl (by omega) (by decide) dX2_earlierAgainst_47 ?_
            refine kSN (As := [.int (nI k1), .int (md j)]) (rest := []) ⟨hx, hb, hml, hown, hts⟩ (c_X4_conflict l G [(cB, .byte), (cI, .int), (cZ, .boolean)] tc (wd a cB cI cZ gv rn lv rc lk ss rw sg (nI n) od aw tb md ql dr) k1 (md j) hk9) (⟨va_cnB 2 hts gX2_earlierAgainst_X4_conflict_n47 rfl rfl rfl (hZ.2.1) (hts (.initialized RX4) (by decide +kernel)) (by decide +kernel) ⟨by decide, by decide⟩, hts (.static yX4_conflict) (by decide +kernel), trivial⟩) hK hZ hA hP hD hS rfl hl.1 rfl (Nat.le_of_ble_eq_true rfl) dX2_earlierAgainst_48 ⟨Nat.zero_le _, Nat.zero_le _⟩ (fun v w' H locs hp hP hD hS => ?_)
            obtain ⟨rfl, rfl⟩ := hp
            have hP : va_P G vwCl (wd a cB cI cZ gv rn lv rc lk ss rw sg (nI n) od aw tb md ql dr) H := hP
            have hD : va_D A (wd a cB cI cZ gv rn lv rc lk ss rw sg (nI n) od aw tb md ql dr) := hD
            refine W.eq (g2 := F0 m 51 ls [.int (fw_b (px_cf k1 (md j)))]) rfl ?_
            refine lv_if_eq (tgt := 63) hx hb dX2_earlierAgainst_51 (by decide) (fun c_51 => ?_) (fun c_51 => ?_)
            · have c_51 := fw_b0.mp c_51
              refine lv_iinc (v := nI (i + 1)) (lv' := [(5, .int (nI (i + 1))), (6, .int (nI j)), (4, .int acc), (0, .ref (a 4)), (1, .int x1), (2, .int (nI k1)), (3, .int (nI pl))]) hx hb dX2_earlierAgainst_63 hl (k := 1) rfl (fw_inc _) (by decide) rfl (fun ls hl => ?_)
              refine lv_goto (tgt := 6) hx hb dX2_earlierAgainst_66 (by decide) ?_
              exact ih_6 (i + 1) acc _ _ _ (by omega) (by omega) (by omega) (by rw [fw_itS, ← hacc]; simp [px_eaS, ej, nI_clamp (show j < 2 ^ 31 by omega), c_37, c_51]) hP hD hS (lv_sub hl [0, 2, 3, 4, 5, 6] rfl)
            · have c_51 := fw_b1.mp c_51
              refine lv_iload hx hb dX2_earlierAgainst_54 (lv_at hl 2 rfl) ?_
              refine lv_iconst (v := 1) hx hb dX2_earlierAgainst_56 (by decide) ?_
              refine lv_iload hx hb dX2_earlierAgainst_57 (lv_at hl 0 rfl) ?_
              refine lv_ishl hx hb dX2_earlierAgainst_59 ?_
              refine lv_ior hx hb dX2_earlierAgainst_60 ?_
              refine lv_istore (lv' := [(4, .int (acc ||| (1 <<< ((nI j) &&& 31)))), (6, .int (nI j)), (5, .int (nI i)), (0, .ref (a 4)), (1, .int x1), (2, .int (nI k1)), (3, .int (nI pl))]) hx hb dX2_earlierAgainst_61 hl (by decide) rfl (fun ls hl => ?_)
              refine lv_iinc (v := nI (i + 1)) (lv' := [(5, .int (nI (i + 1))), (4, .int (acc ||| (1 <<< ((nI j) &&& 31)))), (6, .int (nI j)), (0, .ref (a 4)), (1, .int x1), (2, .int (nI k1)), (3, .int (nI pl))]) hx hb dX2_earlierAgainst_63 hl (k := 2) rfl (fw_inc _) (by decide) rfl (fun ls hl => ?_)
              refine lv_goto (tgt := 6) hx hb dX2_earlierAgainst_66 (by decide) ?_
              exact ih_6 (i + 1) (acc ||| (1 <<< ((nI j) &&& 31))) _ _ _ (by omega) (by omega) (by omega) (by rw [fw_itS, ← hacc]; simp [px_eaS, ej, nI_clamp (show j < 2 ^ 31 by omega), c_37, c_51]) hP hD hS (lv_sub hl [0, 1, 3, 4, 5, 6] rfl)
  exact lp_6 _ 0 0 _ _ _ (Nat.lt_succ_self _) (by omega) (by omega) (rfl) hP hD hS (lv_sub hl [0, 1, 2, 3, 4, 5] rfl)

abbrev rmX2_markDropped : Room := { frames := 1, cells := 0, slots := 0, locals := 22 }
set_option maxHeartbeats 4000000 in
set_option maxRecDepth 100000 in
theorem c_X2_markDropped (l : Launch) (G : va_G) (cB cI cZ : ClassId) (tc : Nat) (a : Nat → Nat) (gv rc : Int32) (rn lv lk ss rw sg od aw tb md ql dr : Nat → Int32) (n : Nat) (x1 : Int32) (hn6 : n ≤ 6)(hod : ∀ k, k < n → ∃ j : Nat, j < 6 ∧ od k = nI j) : KC l yX2_markDropped wsX2_markDropped rmX2_markDropped G [(cB, .byte), (cI, .int), (cZ, .boolean)] tc [.ref (a 4), .int x1] (wd a cB cI cZ gv rn lv rc lk ss rw sg (nI n) od aw tb md ql dr) (fun v w' => v = none ∧ w' = (wd a cB cI cZ gv rn lv rc lk ss rw sg (nI n) od aw tb md ql (px_md n od aw tb dr x1))) := by
  refine KC.of (cc := cX2_markDropped) (maxL := 3) (ret := none) (by decide) rfl (Nat.le_of_ble_eq_true rfl) ?_
  intro p e s m below meth c args A Q ls hx hb hml hown hts hK hZ hA hP hD hS hl hri hrv
  have hown : s.vm.findClass RX2 = some m.cls := hown
  have hl : lv_has ls 3 [(0, .ref (a 4)), (1, .int x1)] := hl
  have fl_9 := hts (.fieldLink RX2 9 "LockDesk$Queue" "order" "[I") (by decide +kernel)
  have fl_15 := hts (.fieldLink RX2 15 "LockDesk$Queue" "count" "I") (by decide +kernel)
  have fl_31 := hts (.fieldLink RX2 31 "LockDesk$Queue" "dropped" "[Z") (by decide +kernel)
  have hin2 : ∀ w ∈ wsX20, w ∈ wsX2_markDropped := by decide +kernel
  refine lv_iconst (v := 0) hx hb dX2_markDropped_0 (by decide) ?_
  refine lv_istore_n (lv' := [(2, .int 0), (0, .ref (a 4)), (1, .int x1)]) hx hb dX2_markDropped_1 rfl hl (by decide) rfl (fun ls hl => ?_)
  have lp_2 : ∀ (nf : Nat) (i : Nat) (f : Nat → Int32) (H : Heap) (locs : List Loc) (ls : Array Slot), n - i < nf → (i ≤ n) → (f = fw_it (px_mdS od aw tb x1) i dr) → va_P G vwCl (wd a cB cI cZ gv rn lv rc lk ss rw sg (nI n) od aw tb md ql f) H → va_D A (wd a cB cI cZ gv rn lv rc lk ss rw sg (nI n) od aw tb md ql f) → va_S A s.heap H locs → lv_has ls 3 [(2, .int (nI i)), (0, .ref (a 4)), (1, .int x1)] → W p l e rmX2_markDropped s m args below meth c H locs 0 0 Q (F0 m 2 ls []) := by
    intro nf
    induction nf with
    | zero => intro i f H locs ls h0; exact absurd h0 (Nat.not_lt_zero _)
    | succ nf_2 ih_2 =>
      intro i f H locs ls hn_2 hi hf hP hD hS hl
      refine lv_iload_n hx hb dX2_markDropped_2 rfl (lv_at hl 0 rfl) ?_
      refine lv_aload_n hx hb dX2_markDropped_3 rfl (lv_at hl 1 rfl) ?_
      refine va_get (D := G) (ci := 2) (v := .int (nI n)) (C := RX2) (T := TX2) (N := 7) hx hb hts hin2 hown hK hP 4 rfl rfl 1 (by decide) fl_15 (fun _ h9 => h9) rfl dX2_markDropped_4 ?_
      refine lv_icmp_ge (tgt := 42) hx hb dX2_markDropped_7 (by decide) (fun c_7 => ?_) (fun c_7 => ?_)
      · have hE : i = n := by
          have := fw_nle c_7 (by omega) (by omega)
          omega
        exact hrv rfl _ _ _ _ _ (⟨rfl, by rw [px_md, ← hE, ← hf]⟩) hP hD hS dX2_markDropped_42
      · have hL : i < n := by
          have := fw_nlt c_7 (by omega) (by omega)
          omega
        refine lv_aload_n hx hb dX2_markDropped_10 rfl (lv_at hl 1 rfl) ?_
        refine lv_aload_n hx hb dX2_markDropped_11 rfl (lv_at hl 1 rfl) ?_
        refine va_get (D := G) (ci := 2) (v := .ref (a 11)) (C := RX2) (T := TX2) (N := 7) hx hb hts hin2 hown hK hP 4 rfl rfl 0 (by decide) fl_9 (fun _ h9 => h9) rfl dX2_markDropped_12 ?_
        refine lv_iload_n hx hb dX2_markDropped_15 rfl (lv_at hl 0 rfl) ?_
        refine fw_iald (j := i) (f := od) hx hb hK hP 11 1 rfl rfl (by omega) (by decide) dX2_markDropped_16 ?_
        obtain ⟨j, hj, ej⟩ := hod i hL
        rw [ej]
        refine lv_iload_n hx hb dX2_markDropped_17 rfl (lv_at hl 2 rfl) ?_
        refine kV (As := [.int (nI j), .int x1]) (rest := []) ⟨hx, hb, hml, hown, hts⟩ (c_X2_wants l G cB cI cZ tc a gv rc (nI n) rn lv lk ss rw sg od aw tb md ql f j x1 hj) (cwV 2 hts gX2_markDropped_X2_wants rfl rfl rfl (by decide +kernel) ⟨by decide, by decide⟩) hK hZ hA hP hD hS 4 2 rfl rfl rfl hl.1 rfl (Nat.le_of_ble_eq_true rfl) dX2_markDropped_18 ⟨Nat.zero_le _, Nat.zero_le _⟩ (fun v w' H locs hp hP hD hS => ?_)
        obtain ⟨rfl, rfl⟩ := hp
        have hP : va_P G vwCl (wd a cB cI cZ gv rn lv rc lk ss rw sg (nI n) od aw tb md ql f) H := hP
        have hD : va_D A (wd a cB cI cZ gv rn lv rc lk ss rw sg (nI n) od aw tb md ql f) := hD
        refine W.eq (g2 := F0 m 21 ls [.int (fw_b (px_wants aw tb f j x1))]) rfl ?_
        refine lv_if_eq (tgt := 36) hx hb dX2_markDropped_21 (by decide) (fun c_21 => ?_) (fun c_21 => ?_)
        · have c_21 := fw_b0.mp c_21
          refine lv_iinc (v := nI (i + 1)) (lv' := [(2, .int (nI (i + 1))), (0, .ref (a 4)), (1, .int x1)]) hx hb dX2_markDropped_36 hl (k := 0) rfl (fw_inc _) (by decide) rfl (fun ls hl => ?_)
          refine lv_goto (tgt := 2) hx hb dX2_markDropped_39 (by decide) ?_
          exact ih_2 (i + 1) f _ _ _ (by omega) (by omega) (by rw [fw_itS, ← hf]; simp [px_mdS, ej, nI_clamp (show j < 2 ^ 31 by omega), c_21]) hP hD hS (lv_sub hl [0, 1, 2] rfl)
        · have c_21 := fw_b1.mp c_21
          refine lv_aload_n hx hb dX2_markDropped_24 rfl (lv_at hl 1 rfl) ?_
          refine va_get (D := G) (ci := 2) (v := .ref (a 16)) (C := RX2) (T := TX2) (N := 7) hx hb hts hin2 hown hK hP 4 rfl rfl 6 (by decide) fl_31 (fun _ h9 => h9) rfl dX2_markDropped_25 ?_
          refine lv_aload_n hx hb dX2_markDropped_28 rfl (lv_at hl 1 rfl) ?_
          refine va_get (D := G) (ci := 2) (v := .ref (a 11)) (C := RX2) (T := TX2) (N := 7) hx hb hts hin2 hown hK hP 4 rfl rfl 0 (by decide) fl_9 (fun _ h9 => h9) rfl dX2_markDropped_29 ?_
          refine lv_iload_n hx hb dX2_markDropped_32 rfl (lv_at hl 0 rfl) ?_
          refine fw_iald (j := i) (f := od) hx hb hK hP 11 1 rfl rfl (by omega) (by decide) dX2_markDropped_33 ?_
          rw [ej]
          refine lv_iconst (v := 1) hx hb dX2_markDropped_34 (by decide) ?_
          refine fw_zast (j := j) (f := f) (x := 1) hx hb hK hP hD hS 16 2 rfl rfl (by omega) (by decide) (by decide) dX2_markDropped_35 (fun H locs hP hD hS => ?_)
          have hP : va_P G vwCl (wd a cB cI cZ gv rn lv rc lk ss rw sg (nI n) od aw tb md ql (upd f j 1)) H := hP
          have hD : va_D A (wd a cB cI cZ gv rn lv rc lk ss rw sg (nI n) od aw tb md ql (upd f j 1)) := hD
          refine lv_iinc (v := nI (i + 1)) (lv' := [(2, .int (nI (i + 1))), (0, .ref (a 4)), (1, .int x1)]) hx hb dX2_markDropped_36 hl (k := 0) rfl (fw_inc _) (by decide) rfl (fun ls hl => ?_)
          refine lv_goto (tgt := 2) hx hb dX2_markDropped_39 (by decide) ?_
          exact ih_2 (i + 1) (upd f j 1) _ _ _ (by omega) (by omega) (by rw [fw_itS, ← hf]; simp [px_mdS, ej, nI_clamp (show j < 2 ^ 31 by omega), c_21]) hP hD hS (lv_sub hl [0, 1, 2] rfl)
  exact lp_2 _ 0 dr _ _ _ (Nat.lt_succ_self _) (by omega) (rfl) hP hD hS (lv_sub hl [0, 1, 2] rfl)

abbrev rmX2_lower : Room := { frames := 0, cells := 0, slots := 0, locals := 0 }
set_option maxHeartbeats 4000000 in
set_option maxRecDepth 100000 in
theorem c_X2_lower (l : Launch) (G : va_G) (cB cI cZ : ClassId) (tc : Nat) (a : Nat → Nat) (gv rc qc : Int32) (rn lv lk ss rw sg od aw tb md ql dr : Nat → Int32) (x : Nat) (z : Nat) (hx6 : x < 6) : KC l yX2_lower wsX2_lower rmX2_lower G [(cB, .byte), (cI, .int), (cZ, .boolean)] tc [.ref (a 4), .int (nI x), .int (nI (z + 1))] (wd a cB cI cZ gv rn lv rc lk ss rw sg qc od aw tb md ql dr) (fun v w' => v = none ∧ w' = (wd a cB cI cZ gv rn lv rc lk ss rw sg qc od aw tb md (px_low ql x z) dr)) := by
  refine KC.of (cc := cX2_lower) (maxL := 3) (ret := none) (by decide) rfl (Nat.le_of_ble_eq_true rfl) ?_
  intro p e s m below meth c args A Q ls hx hb hml hown hts hK hZ hA hP hD hS hl hri hrv
  have hown : s.vm.findClass RX2 = some m.cls := hown
  have hl : lv_has ls 3 [(0, .ref (a 4)), (1, .int (nI x)), (2, .int (nI (z + 1)))] := hl
  have fl_28 := hts (.fieldLink RX2 28 "LockDesk$Queue" "levels" "[I") (by decide +kernel)
  have hin2 : ∀ w ∈ wsX20, w ∈ wsX2_lower := by decide +kernel
  refine lv_aload_n hx hb dX2_lower_0 rfl (lv_at hl 0 rfl) ?_
  refine va_get (D := G) (ci := 2) (v := .ref (a 15)) (C := RX2) (T := TX2) (N := 7) hx hb hts hin2 hown hK hP 4 rfl rfl 5 (by decide) fl_28 (fun _ h9 => h9) rfl dX2_lower_1 ?_
  refine lv_iload_n hx hb dX2_lower_4 rfl (lv_at hl 1 rfl) ?_
  refine fw_iald (j := x) (f := ql) hx hb hK hP 15 1 rfl rfl (by omega) (by decide) dX2_lower_5 ?_
  refine lv_iload_n hx hb dX2_lower_6 rfl (lv_at hl 2 rfl) ?_
  refine lv_icmp_lt (tgt := 19) hx hb dX2_lower_7 (by decide) (fun c_7 => ?_) (fun c_7 => ?_)
  · exact hrv rfl _ _ _ _ _ (⟨rfl, by simp [px_low, c_7]⟩) hP hD hS dX2_lower_19
  · refine lv_aload_n hx hb dX2_lower_10 rfl (lv_at hl 0 rfl) ?_
    refine va_get (D := G) (ci := 2) (v := .ref (a 15)) (C := RX2) (T := TX2) (N := 7) hx hb hts hin2 hown hK hP 4 rfl rfl 5 (by decide) fl_28 (fun _ h9 => h9) rfl dX2_lower_11 ?_
    refine lv_iload_n hx hb dX2_lower_14 rfl (lv_at hl 1 rfl) ?_
    refine lv_iload_n hx hb dX2_lower_15 rfl (lv_at hl 2 rfl) ?_
    refine lv_iconst (v := 1) hx hb dX2_lower_16 (by decide) ?_
    refine lv_isub hx hb dX2_lower_17 ?_
    rw [nI_pred z]
    refine fw_iast (j := x) (f := ql) (x := nI z) hx hb hK hP hD hS 15 1 rfl rfl (by omega) (by decide) dX2_lower_18 (fun H locs hP hD hS => ?_)
    have hP : va_P G vwCl (wd a cB cI cZ gv rn lv rc lk ss rw sg qc od aw tb md (upd ql x (nI z)) dr) H := hP
    have hD : va_D A (wd a cB cI cZ gv rn lv rc lk ss rw sg qc od aw tb md (upd ql x (nI z)) dr) := hD
    exact hrv rfl _ _ _ _ _ (⟨rfl, by simp [px_low, c_7]⟩) hP hD hS dX2_lower_19

abbrev rmX2_isForNumber : Room := { frames := 0, cells := 0, slots := 0, locals := 0 }
set_option maxHeartbeats 4000000 in
set_option maxRecDepth 100000 in
theorem c_X2_isForNumber (l : Launch) (G : va_G) (cB cI cZ : ClassId) (tc : Nat) (a : Nat → Nat) (gv rc qc : Int32) (rn lv lk ss rw sg od aw tb md ql dr : Nat → Int32) (x : Nat) (hx6 : x < 6) : KC l yX2_isForNumber wsX2_isForNumber rmX2_isForNumber G [(cB, .byte), (cI, .int), (cZ, .boolean)] tc [.ref (a 4), .int (nI x)] (wd a cB cI cZ gv rn lv rc lk ss rw sg qc od aw tb md ql dr) (fun v w' => v = some (.int (fw_b (!decide (aw x = 0)))) ∧ w' = (wd a cB cI cZ gv rn lv rc lk ss rw sg qc od aw tb md ql dr)) := by
  refine KC.of (cc := cX2_isForNumber) (maxL := 2) (ret := some .boolean) (by decide) rfl (Nat.le_of_ble_eq_true rfl) ?_
  intro p e s m below meth c args A Q ls hx hb hml hown hts hK hZ hA hP hD hS hl hri hrv
  have hown : s.vm.findClass RX2 = some m.cls := hown
  have hl : lv_has ls 2 [(0, .ref (a 4)), (1, .int (nI x))] := hl
  have fl_19 := hts (.fieldLink RX2 19 "LockDesk$Queue" "awaited" "[I") (by decide +kernel)
  have hin2 : ∀ w ∈ wsX20, w ∈ wsX2_isForNumber := by decide +kernel
  refine lv_aload_n hx hb dX2_isForNumber_0 rfl (lv_at hl 0 rfl) ?_
  refine va_get (D := G) (ci := 2) (v := .ref (a 12)) (C := RX2) (T := TX2) (N := 7) hx hb hts hin2 hown hK hP 4 rfl rfl 2 (by decide) fl_19 (fun _ h9 => h9) rfl dX2_isForNumber_1 ?_
  refine lv_iload_n hx hb dX2_isForNumber_4 rfl (lv_at hl 1 rfl) ?_
  refine fw_iald (j := x) (f := aw) hx hb hK hP 12 1 rfl rfl (by omega) (by decide) dX2_isForNumber_5 ?_
  refine lv_if_eq (tgt := 13) hx hb dX2_isForNumber_6 (by decide) (fun c_6 => ?_) (fun c_6 => ?_)
  · refine lv_iconst (v := 0) hx hb dX2_isForNumber_13 (by decide) ?_
    exact hri _ rfl 0 _ _ _ _ _ (by decide) (⟨by simp [fw_b, c_6], rfl⟩) hP hD hS dX2_isForNumber_14
  · refine lv_iconst (v := 1) hx hb dX2_isForNumber_9 (by decide) ?_
    refine lv_goto (tgt := 14) hx hb dX2_isForNumber_10 (by decide) ?_
    exact hri _ rfl 1 _ _ _ _ _ (by decide) (⟨by simp [fw_b, c_6], rfl⟩) hP hD hS dX2_isForNumber_14

abbrev rmX2_numberOf : Room := { frames := 0, cells := 0, slots := 0, locals := 0 }
set_option maxHeartbeats 4000000 in
set_option maxRecDepth 100000 in
theorem c_X2_numberOf (l : Launch) (G : va_G) (cB cI cZ : ClassId) (tc : Nat) (a : Nat → Nat) (gv rc qc : Int32) (rn lv lk ss rw sg od aw tb md ql dr : Nat → Int32) (x : Nat) (hx6 : x < 6) : KC l yX2_numberOf wsX2_numberOf rmX2_numberOf G [(cB, .byte), (cI, .int), (cZ, .boolean)] tc [.ref (a 4), .int (nI x)] (wd a cB cI cZ gv rn lv rc lk ss rw sg qc od aw tb md ql dr) (fun v w' => v = some (.int (aw x)) ∧ w' = (wd a cB cI cZ gv rn lv rc lk ss rw sg qc od aw tb md ql dr)) := by
  refine KC.of (cc := cX2_numberOf) (maxL := 2) (ret := some .int) (by decide) rfl (Nat.le_of_ble_eq_true rfl) ?_
  intro p e s m below meth c args A Q ls hx hb hml hown hts hK hZ hA hP hD hS hl hri hrv
  have hown : s.vm.findClass RX2 = some m.cls := hown
  have hl : lv_has ls 2 [(0, .ref (a 4)), (1, .int (nI x))] := hl
  have fl_19 := hts (.fieldLink RX2 19 "LockDesk$Queue" "awaited" "[I") (by decide +kernel)
  have hin2 : ∀ w ∈ wsX20, w ∈ wsX2_numberOf := by decide +kernel
  refine lv_aload_n hx hb dX2_numberOf_0 rfl (lv_at hl 0 rfl) ?_
  refine va_get (D := G) (ci := 2) (v := .ref (a 12)) (C := RX2) (T := TX2) (N := 7) hx hb hts hin2 hown hK hP 4 rfl rfl 2 (by decide) fl_19 (fun _ h9 => h9) rfl dX2_numberOf_1 ?_
  refine lv_iload_n hx hb dX2_numberOf_4 rfl (lv_at hl 1 rfl) ?_
  refine fw_iald (j := x) (f := aw) hx hb hK hP 12 1 rfl rfl (by omega) (by decide) dX2_numberOf_5 ?_
  exact hri _ rfl (aw x) _ _ _ _ _ (rfl) (⟨rfl, rfl⟩) hP hD hS dX2_numberOf_6

abbrev rmX2_tableOf : Room := { frames := 0, cells := 0, slots := 0, locals := 0 }
set_option maxHeartbeats 4000000 in
set_option maxRecDepth 100000 in
theorem c_X2_tableOf (l : Launch) (G : va_G) (cB cI cZ : ClassId) (tc : Nat) (a : Nat → Nat) (gv rc qc : Int32) (rn lv lk ss rw sg od aw tb md ql dr : Nat → Int32) (x : Nat) (hx6 : x < 6) : KC l yX2_tableOf wsX2_tableOf rmX2_tableOf G [(cB, .byte), (cI, .int), (cZ, .boolean)] tc [.ref (a 4), .int (nI x)] (wd a cB cI cZ gv rn lv rc lk ss rw sg qc od aw tb md ql dr) (fun v w' => v = some (.int (tb x)) ∧ w' = (wd a cB cI cZ gv rn lv rc lk ss rw sg qc od aw tb md ql dr)) := by
  refine KC.of (cc := cX2_tableOf) (maxL := 2) (ret := some .int) (by decide) rfl (Nat.le_of_ble_eq_true rfl) ?_
  intro p e s m below meth c args A Q ls hx hb hml hown hts hK hZ hA hP hD hS hl hri hrv
  have hown : s.vm.findClass RX2 = some m.cls := hown
  have hl : lv_has ls 2 [(0, .ref (a 4)), (1, .int (nI x))] := hl
  have fl_22 := hts (.fieldLink RX2 22 "LockDesk$Queue" "tables" "[I") (by decide +kernel)
  have hin2 : ∀ w ∈ wsX20, w ∈ wsX2_tableOf := by decide +kernel
  refine lv_aload_n hx hb dX2_tableOf_0 rfl (lv_at hl 0 rfl) ?_
  refine va_get (D := G) (ci := 2) (v := .ref (a 13)) (C := RX2) (T := TX2) (N := 7) hx hb hts hin2 hown hK hP 4 rfl rfl 3 (by decide) fl_22 (fun _ h9 => h9) rfl dX2_tableOf_1 ?_
  refine lv_iload_n hx hb dX2_tableOf_4 rfl (lv_at hl 1 rfl) ?_
  refine fw_iald (j := x) (f := tb) hx hb hK hP 13 1 rfl rfl (by omega) (by decide) dX2_tableOf_5 ?_
  exact hri _ rfl (tb x) _ _ _ _ _ (rfl) (⟨rfl, rfl⟩) hP hD hS dX2_tableOf_6

abbrev rmX2_modeOf : Room := { frames := 0, cells := 0, slots := 0, locals := 0 }
set_option maxHeartbeats 4000000 in
set_option maxRecDepth 100000 in
theorem c_X2_modeOf (l : Launch) (G : va_G) (cB cI cZ : ClassId) (tc : Nat) (a : Nat → Nat) (gv rc qc : Int32) (rn lv lk ss rw sg od aw tb md ql dr : Nat → Int32) (x : Nat) (hx6 : x < 6) : KC l yX2_modeOf wsX2_modeOf rmX2_modeOf G [(cB, .byte), (cI, .int), (cZ, .boolean)] tc [.ref (a 4), .int (nI x)] (wd a cB cI cZ gv rn lv rc lk ss rw sg qc od aw tb md ql dr) (fun v w' => v = some (.int (md x)) ∧ w' = (wd a cB cI cZ gv rn lv rc lk ss rw sg qc od aw tb md ql dr)) := by
  refine KC.of (cc := cX2_modeOf) (maxL := 2) (ret := some .int) (by decide) rfl (Nat.le_of_ble_eq_true rfl) ?_
  intro p e s m below meth c args A Q ls hx hb hml hown hts hK hZ hA hP hD hS hl hri hrv
  have hown : s.vm.findClass RX2 = some m.cls := hown
  have hl : lv_has ls 2 [(0, .ref (a 4)), (1, .int (nI x))] := hl
  have fl_25 := hts (.fieldLink RX2 25 "LockDesk$Queue" "modes" "[I") (by decide +kernel)
  have hin2 : ∀ w ∈ wsX20, w ∈ wsX2_modeOf := by decide +kernel
  refine lv_aload_n hx hb dX2_modeOf_0 rfl (lv_at hl 0 rfl) ?_
  refine va_get (D := G) (ci := 2) (v := .ref (a 14)) (C := RX2) (T := TX2) (N := 7) hx hb hts hin2 hown hK hP 4 rfl rfl 4 (by decide) fl_25 (fun _ h9 => h9) rfl dX2_modeOf_1 ?_
  refine lv_iload_n hx hb dX2_modeOf_4 rfl (lv_at hl 1 rfl) ?_
  refine fw_iald (j := x) (f := md) hx hb hK hP 14 1 rfl rfl (by omega) (by decide) dX2_modeOf_5 ?_
  exact hri _ rfl (md x) _ _ _ _ _ (rfl) (⟨rfl, rfl⟩) hP hD hS dX2_modeOf_6

abbrev rmX2_levelOf : Room := { frames := 0, cells := 0, slots := 0, locals := 0 }
set_option maxHeartbeats 4000000 in
set_option maxRecDepth 100000 in
theorem c_X2_levelOf (l : Launch) (G : va_G) (cB cI cZ : ClassId) (tc : Nat) (a : Nat → Nat) (gv rc qc : Int32) (rn lv lk ss rw sg od aw tb md ql dr : Nat → Int32) (x : Nat) (hx6 : x < 6) : KC l yX2_levelOf wsX2_levelOf rmX2_levelOf G [(cB, .byte), (cI, .int), (cZ, .boolean)] tc [.ref (a 4), .int (nI x)] (wd a cB cI cZ gv rn lv rc lk ss rw sg qc od aw tb md ql dr) (fun v w' => v = some (.int (ql x)) ∧ w' = (wd a cB cI cZ gv rn lv rc lk ss rw sg qc od aw tb md ql dr)) := by
  refine KC.of (cc := cX2_levelOf) (maxL := 2) (ret := some .int) (by decide) rfl (Nat.le_of_ble_eq_true rfl) ?_
  intro p e s m below meth c args A Q ls hx hb hml hown hts hK hZ hA hP hD hS hl hri hrv
  have hown : s.vm.findClass RX2 = some m.cls := hown
  have hl : lv_has ls 2 [(0, .ref (a 4)), (1, .int (nI x))] := hl
  have fl_28 := hts (.fieldLink RX2 28 "LockDesk$Queue" "levels" "[I") (by decide +kernel)
  have hin2 : ∀ w ∈ wsX20, w ∈ wsX2_levelOf := by decide +kernel
  refine lv_aload_n hx hb dX2_levelOf_0 rfl (lv_at hl 0 rfl) ?_
  refine va_get (D := G) (ci := 2) (v := .ref (a 15)) (C := RX2) (T := TX2) (N := 7) hx hb hts hin2 hown hK hP 4 rfl rfl 5 (by decide) fl_28 (fun _ h9 => h9) rfl dX2_levelOf_1 ?_
  refine lv_iload_n hx hb dX2_levelOf_4 rfl (lv_at hl 1 rfl) ?_
  refine fw_iald (j := x) (f := ql) hx hb hK hP 15 1 rfl rfl (by omega) (by decide) dX2_levelOf_5 ?_
  exact hri _ rfl (ql x) _ _ _ _ _ (rfl) (⟨rfl, rfl⟩) hP hD hS dX2_levelOf_6

abbrev rmX2_isDropped : Room := { frames := 0, cells := 0, slots := 0, locals := 0 }
set_option maxHeartbeats 4000000 in
set_option maxRecDepth 100000 in
theorem c_X2_isDropped (l : Launch) (G : va_G) (cB cI cZ : ClassId) (tc : Nat) (a : Nat → Nat) (gv rc qc : Int32) (rn lv lk ss rw sg od aw tb md ql dr : Nat → Int32) (x : Nat) (hx6 : x < 6)(hd : dr x = 0 ∨ dr x = 1) : KC l yX2_isDropped wsX2_isDropped rmX2_isDropped G [(cB, .byte), (cI, .int), (cZ, .boolean)] tc [.ref (a 4), .int (nI x)] (wd a cB cI cZ gv rn lv rc lk ss rw sg qc od aw tb md ql dr) (fun v w' => v = some (.int (dr x)) ∧ w' = (wd a cB cI cZ gv rn lv rc lk ss rw sg qc od aw tb md ql dr)) := by
  refine KC.of (cc := cX2_isDropped) (maxL := 2) (ret := some .boolean) (by decide) rfl (Nat.le_of_ble_eq_true rfl) ?_
  intro p e s m below meth c args A Q ls hx hb hml hown hts hK hZ hA hP hD hS hl hri hrv
  have hown : s.vm.findClass RX2 = some m.cls := hown
  have hl : lv_has ls 2 [(0, .ref (a 4)), (1, .int (nI x))] := hl
  have fl_31 := hts (.fieldLink RX2 31 "LockDesk$Queue" "dropped" "[Z") (by decide +kernel)
  have hin2 : ∀ w ∈ wsX20, w ∈ wsX2_isDropped := by decide +kernel
  refine lv_aload_n hx hb dX2_isDropped_0 rfl (lv_at hl 0 rfl) ?_
  refine va_get (D := G) (ci := 2) (v := .ref (a 16)) (C := RX2) (T := TX2) (N := 7) hx hb hts hin2 hown hK hP 4 rfl rfl 6 (by decide) fl_31 (fun _ h9 => h9) rfl dX2_isDropped_1 ?_
  refine lv_iload_n hx hb dX2_isDropped_4 rfl (lv_at hl 1 rfl) ?_
  refine fw_zald (j := x) (f := dr) hx hb hK hP 16 2 rfl rfl (by omega) (by decide) dX2_isDropped_5 ?_
  exact hri _ rfl (dr x) _ _ _ _ _ (px_nz hd) (⟨rfl, rfl⟩) hP hD hS dX2_isDropped_6
end
section
abbrev rmX3_suffices : Room := { frames := 0, cells := 0, slots := 0, locals := 0 }
set_option maxHeartbeats 4000000 in
set_option maxRecDepth 100000 in
theorem c_X3_suffices (l : Launch) (G : va_G) (cB cI cZ : ClassId) (tc : Nat) (a : Nat → Nat) (gv qc : Int32) (rn lv lk ss rw sg od aw tb md ql dr : Nat → Int32) (n : Nat) (x1 : Int32) (x2 : Int32) (x3 : Int32) (hn5 : n ≤ 512) : KC l yX3_suffices wsX3_suffices rmX3_suffices G [(cB, .byte), (cI, .int), (cZ, .boolean)] tc [.ref (a 3), .int x1, .int x2, .int x3] (wd a cB cI cZ gv rn lv (nI n) lk ss rw sg qc od aw tb md ql dr) (fun v w' => v = some (.int (fw_b (px_any (px_sfP ss rw sg x1 x2 x3) n))) ∧ w' = (wd a cB cI cZ gv rn lv (nI n) lk ss rw sg qc od aw tb md ql dr)) := by
  refine KC.of (cc := cX3_suffices) (maxL := 5) (ret := some .boolean) (by decide) rfl (Nat.le_of_ble_eq_true rfl) ?_
  intro p e s m below meth c args A Q ls hx hb hml hown hts hK hZ hA hP hD hS hl hri hrv
  have hown : s.vm.findClass RX3 = some m.cls := hown
  have hl : lv_has ls 5 [(0, .ref (a 3)), (1, .int x1), (2, .int x2), (3, .int x3)] := hl
  have fl_15 := hts (.fieldLink RX3 15 "LockDesk$RowLocks" "sessions" "[I") (by decide +kernel)
  have fl_18 := hts (.fieldLink RX3 18 "LockDesk$RowLocks" "rows" "[I") (by decide +kernel)
  have fl_21 := hts (.fieldLink RX3 21 "LockDesk$RowLocks" "strengths" "[I") (by decide +kernel)
  have fl_24 := hts (.fieldLink RX3 24 "LockDesk$RowLocks" "count" "I") (by decide +kernel)
  have hin3 : ∀ w ∈ wsX30, w ∈ wsX3_suffices := by decide +kernel
  refine lv_iconst (v := 0) hx hb dX3_suffices_0 (by decide) ?_
  refine lv_istore (lv' := [(4, .int 0), (0, .ref (a 3)), (1, .int x1), (2, .int x2), (3, .int x3)]) hx hb dX3_suffices_1 hl (by decide) rfl (fun ls hl => ?_)
  have lp_3 : ∀ (nf : Nat) (i : Nat) (H : Heap) (locs : List Loc) (ls : Array Slot), n - i < nf → (i ≤ n) → (px_any (px_sfP ss rw sg x1 x2 x3) i = false) → va_P G vwCl (wd a cB cI cZ gv rn lv (nI n) lk ss rw sg qc od aw tb md ql dr) H → va_D A (wd a cB cI cZ gv rn lv (nI n) lk ss rw sg qc od aw tb md ql dr) → va_S A s.heap H locs → lv_has ls 5 [(4, .int (nI i)), (0, .ref (a 3)), (1, .int x1), (2, .int x2), (3, .int x3)] → W p l e rmX3_suffices s m args below meth c H locs 0 0 Q (F0 m 3 ls []) := by
    intro nf
    induction nf with
    | zero => intro i H locs ls h0; exact absurd h0 (Nat.not_lt_zero _)
    | succ nf_3 ih_3 =>
      intro i H locs ls hn_3 hi hno hP hD hS hl
      refine lv_iload hx hb dX3_suffices_3 (lv_at hl 0 rfl) ?_
      refine lv_aload_n hx hb dX3_suffices_5 rfl (lv_at hl 1 rfl) ?_
      refine va_get (D := G) (ci := 3) (v := .int (nI n)) (C := RX3) (T := TX3) (N := 5) hx hb hts hin3 hown hK hP 3 rfl rfl 4 (by decide) fl_24 (fun _ h9 => h9) rfl dX3_suffices_6 ?_
      refine lv_icmp_ge (tgt := 53) hx hb dX3_suffices_9 (by decide) (fun c_9 => ?_) (fun c_9 => ?_)
      · have hE : i = n := by
          have := fw_nle c_9 (by omega) (by omega)
          omega
        refine lv_iconst (v := 0) hx hb dX3_suffices_53 (by decide) ?_
        exact hri _ rfl 0 _ _ _ _ _ (by decide) (⟨by rw [← hE, hno]; rfl, rfl⟩) hP hD hS dX3_suffices_54
      · have hL : i < n := by
          have := fw_nlt c_9 (by omega) (by omega)
          omega
        refine lv_aload_n hx hb dX3_suffices_12 rfl (lv_at hl 1 rfl) ?_
        refine va_get (D := G) (ci := 3) (v := .ref (a 9)) (C := RX3) (T := TX3) (N := 5) hx hb hts hin3 hown hK hP 3 rfl rfl 2 (by decide) fl_18 (fun _ h9 => h9) rfl dX3_suffices_13 ?_
        refine lv_iload hx hb dX3_suffices_16 (lv_at hl 0 rfl) ?_
        refine fw_iald (j := i) (f := rw) hx hb hK hP 9 1 rfl rfl (by omega) (by decide) dX3_suffices_18 ?_
        refine lv_iload_n hx hb dX3_suffices_19 rfl (lv_at hl 3 rfl) ?_
        refine lv_icmp_ne (tgt := 47) hx hb dX3_suffices_20 (by decide) (fun c_20 => ?_) (fun c_20 => ?_)
        · refine lv_iinc (v := nI (i + 1)) (lv' := [(4, .int (nI (i + 1))), (0, .ref (a 3)), (1, .int x1), (2, .int x2), (3, .int x3)]) hx hb dX3_suffices_47 hl (k := 0) rfl (fw_inc _) (by decide) rfl (fun ls hl => ?_)
          refine lv_goto (tgt := 3) hx hb dX3_suffices_50 (by decide) ?_
          exact ih_3 (i + 1) _ _ _ (by omega) (by omega) (px_anyS hno (by simp [px_sfP, c_20])) hP hD hS (lv_sub hl [0, 1, 2, 3, 4] rfl)
        · refine lv_aload_n hx hb dX3_suffices_23 rfl (lv_at hl 1 rfl) ?_
          refine va_get (D := G) (ci := 3) (v := .ref (a 8)) (C := RX3) (T := TX3) (N := 5) hx hb hts hin3 hown hK hP 3 rfl rfl 1 (by decide) fl_15 (fun _ h9 => h9) rfl dX3_suffices_24 ?_
          refine lv_iload hx hb dX3_suffices_27 (lv_at hl 0 rfl) ?_
          refine fw_iald (j := i) (f := ss) hx hb hK hP 8 1 rfl rfl (by omega) (by decide) dX3_suffices_29 ?_
          refine lv_iload_n hx hb dX3_suffices_30 rfl (lv_at hl 2 rfl) ?_
          refine lv_icmp_ne (tgt := 47) hx hb dX3_suffices_31 (by decide) (fun c_31 => ?_) (fun c_31 => ?_)
          · refine lv_iinc (v := nI (i + 1)) (lv' := [(4, .int (nI (i + 1))), (0, .ref (a 3)), (1, .int x1), (2, .int x2), (3, .int x3)]) hx hb dX3_suffices_47 hl (k := 0) rfl (fw_inc _) (by decide) rfl (fun ls hl => ?_)
            refine lv_goto (tgt := 3) hx hb dX3_suffices_50 (by decide) ?_
            exact ih_3 (i + 1) _ _ _ (by omega) (by omega) (px_anyS hno (by simp [px_sfP, c_20, c_31])) hP hD hS (lv_sub hl [0, 1, 2, 3, 4] rfl)
          · refine lv_aload_n hx hb dX3_suffices_34 rfl (lv_at hl 1 rfl) ?_
            refine va_get (D := G) (ci := 3) (v := .ref (a 10)) (C := RX3) (T := TX3) (N := 5) hx hb hts hin3 hown hK hP 3 rfl rfl 3 (by decide) fl_21 (fun _ h9 => h9) rfl dX3_suffices_35 ?_
            refine lv_iload hx hb dX3_suffices_38 (lv_at hl 0 rfl) ?_
            refine fw_iald (j := i) (f := sg) hx hb hK hP 10 1 rfl rfl (by omega) (by decide) dX3_suffices_40 ?_
            refine lv_iload_n hx hb dX3_suffices_41 rfl (lv_at hl 4 rfl) ?_
            refine lv_icmp_lt (tgt := 47) hx hb dX3_suffices_42 (by decide) (fun c_42 => ?_) (fun c_42 => ?_)
            · refine lv_iinc (v := nI (i + 1)) (lv' := [(4, .int (nI (i + 1))), (0, .ref (a 3)), (1, .int x1), (2, .int x2), (3, .int x3)]) hx hb dX3_suffices_47 hl (k := 0) rfl (fw_inc _) (by decide) rfl (fun ls hl => ?_)
              refine lv_goto (tgt := 3) hx hb dX3_suffices_50 (by decide) ?_
              exact ih_3 (i + 1) _ _ _ (by omega) (by omega) (px_anyS hno (by simp [px_sfP, c_20, c_31, c_42])) hP hD hS (lv_sub hl [0, 1, 2, 3, 4] rfl)
            · refine lv_iconst (v := 1) hx hb dX3_suffices_45 (by decide) ?_
              exact hri _ rfl 1 _ _ _ _ _ (by decide) (⟨by rw [px_anyT (i := i) (by simp [px_sfP, c_20, c_31, c_42]) hL]; rfl, rfl⟩) hP hD hS dX3_suffices_46
  exact lp_3 _ 0 _ _ _ (Nat.lt_succ_self _) (by omega) (rfl) hP hD hS (lv_sub hl [0, 1, 2, 3, 4] rfl)

abbrev rmX3_leastInConflict : Room := { frames := 0, cells := 0, slots := 0, locals := 0 }
set_option maxHeartbeats 4000000 in
set_option maxRecDepth 100000 in
theorem c_X3_leastInConflict (l : Launch) (G : va_G) (cB cI cZ : ClassId) (tc : Nat) (a : Nat → Nat) (gv qc : Int32) (rn lv lk ss rw sg od aw tb md ql dr : Nat → Int32) (n : Nat) (x1 : Int32) (x2 : Int32) (x3 : Int32) (hn5 : n ≤ 512) : KC l yX3_leastInConflict wsX3_leastInConflict rmX3_leastInConflict G [(cB, .byte), (cI, .int), (cZ, .boolean)] tc [.ref (a 3), .int x1, .int x2, .int x3] (wd a cB cI cZ gv rn lv (nI n) lk ss rw sg qc od aw tb md ql dr) (fun v w' => v = some (.int (px_lc n lk ss rw sg x1 x2 x3)) ∧ w' = (wd a cB cI cZ gv rn lv (nI n) lk ss rw sg qc od aw tb md ql dr)) := by
  refine KC.of (cc := cX3_leastInConflict) (maxL := 6) (ret := some .int) (by decide) rfl (Nat.le_of_ble_eq_true rfl) ?_
  intro p e s m below meth c args A Q ls hx hb hml hown hts hK hZ hA hP hD hS hl hri hrv
  have hown : s.vm.findClass RX3 = some m.cls := hown
  have hl : lv_has ls 6 [(0, .ref (a 3)), (1, .int x1), (2, .int x2), (3, .int x3)] := hl
  have fl_9 := hts (.fieldLink RX3 9 "LockDesk$RowLocks" "lockers" "[I") (by decide +kernel)
  have fl_15 := hts (.fieldLink RX3 15 "LockDesk$RowLocks" "sessions" "[I") (by decide +kernel)
  have fl_18 := hts (.fieldLink RX3 18 "LockDesk$RowLocks" "rows" "[I") (by decide +kernel)
  have fl_21 := hts (.fieldLink RX3 21 "LockDesk$RowLocks" "strengths" "[I") (by decide +kernel)
  have fl_24 := hts (.fieldLink RX3 24 "LockDesk$RowLocks" "count" "I") (by decide +kernel)
  have hin3 : ∀ w ∈ wsX30, w ∈ wsX3_leastInConflict := by decide +kernel
  refine lv_iconst (v := 0) hx hb dX3_leastInConflict_0 (by decide) ?_
  refine lv_istore (lv' := [(4, .int 0), (0, .ref (a 3)), (1, .int x1), (2, .int x2), (3, .int x3)]) hx hb dX3_leastInConflict_1 hl (by decide) rfl (fun ls hl => ?_)
  have lp_3 : ∀ (nf : Nat) (i : Nat) (H : Heap) (locs : List Loc) (ls : Array Slot), n - i < nf → (i ≤ n) → (px_fst (px_lcP ss rw sg x1 x2 x3) i = none) → va_P G vwCl (wd a cB cI cZ gv rn lv (nI n) lk ss rw sg qc od aw tb md ql dr) H → va_D A (wd a cB cI cZ gv rn lv (nI n) lk ss rw sg qc od aw tb md ql dr) → va_S A s.heap H locs → lv_has ls 6 [(4, .int (nI i)), (0, .ref (a 3)), (1, .int x1), (2, .int x2), (3, .int x3)] → W p l e rmX3_leastInConflict s m args below meth c H locs 0 0 Q (F0 m 3 ls []) := by
    intro nf
    induction nf with
    | zero => intro i H locs ls h0; exact absurd h0 (Nat.not_lt_zero _)
    | succ nf_3 ih_3 =>
      intro i H locs ls hn_3 hi hno hP hD hS hl
      refine lv_iload hx hb dX3_leastInConflict_3 (lv_at hl 0 rfl) ?_
      refine lv_aload_n hx hb dX3_leastInConflict_5 rfl (lv_at hl 1 rfl) ?_
      refine va_get (D := G) (ci := 3) (v := .int (nI n)) (C := RX3) (T := TX3) (N := 5) hx hb hts hin3 hown hK hP 3 rfl rfl 4 (by decide) fl_24 (fun _ h9 => h9) rfl dX3_leastInConflict_6 ?_
      refine lv_icmp_ge (tgt := 76) hx hb dX3_leastInConflict_9 (by decide) (fun c_9 => ?_) (fun c_9 => ?_)
      · have hE : i = n := by
          have := fw_nle c_9 (by omega) (by omega)
          omega
        refine lv_iconst (v := (-1)) hx hb dX3_leastInConflict_76 (by decide) ?_
        exact hri _ rfl (-1) _ _ _ _ _ (rfl) (⟨by rw [px_lc, ← hE, hno], rfl⟩) hP hD hS dX3_leastInConflict_77
      · have hL : i < n := by
          have := fw_nlt c_9 (by omega) (by omega)
          omega
        refine lv_iload_n hx hb dX3_leastInConflict_12 rfl (lv_at hl 4 rfl) ?_
        refine lv_iconst (v := 2) hx hb dX3_leastInConflict_13 (by decide) ?_
        refine lv_icmp_eq (tgt := 28) hx hb dX3_leastInConflict_14 (by decide) (fun c_14 => ?_) (fun c_14 => ?_)
        · refine lv_iconst (v := 1) hx hb dX3_leastInConflict_28 (by decide) ?_
          refine lv_goto (tgt := 33) hx hb dX3_leastInConflict_29 (by decide) ?_
          refine lv_istore (lv' := [(5, .int 1), (4, .int (nI i)), (0, .ref (a 3)), (1, .int x1), (2, .int x2), (3, .int x3)]) hx hb dX3_leastInConflict_33 hl (by decide) rfl (fun ls hl => ?_)
          refine lv_aload_n hx hb dX3_leastInConflict_35 rfl (lv_at hl 2 rfl) ?_
          refine va_get (D := G) (ci := 3) (v := .ref (a 9)) (C := RX3) (T := TX3) (N := 5) hx hb hts hin3 hown hK hP 3 rfl rfl 2 (by decide) fl_18 (fun _ h9 => h9) rfl dX3_leastInConflict_36 ?_
          refine lv_iload hx hb dX3_leastInConflict_39 (lv_at hl 1 rfl) ?_
          refine fw_iald (j := i) (f := rw) hx hb hK hP 9 1 rfl rfl (by omega) (by decide) dX3_leastInConflict_41 ?_
          refine lv_iload_n hx hb dX3_leastInConflict_42 rfl (lv_at hl 4 rfl) ?_
          refine lv_icmp_ne (tgt := 70) hx hb dX3_leastInConflict_43 (by decide) (fun c_43 => ?_) (fun c_43 => ?_)
          · refine lv_iinc (v := nI (i + 1)) (lv' := [(4, .int (nI (i + 1))), (5, .int 1), (0, .ref (a 3)), (1, .int x1), (2, .int x2), (3, .int x3)]) hx hb dX3_leastInConflict_70 hl (k := 1) rfl (fw_inc _) (by decide) rfl (fun ls hl => ?_)
            refine lv_goto (tgt := 3) hx hb dX3_leastInConflict_73 (by decide) ?_
            exact ih_3 (i + 1) _ _ _ (by omega) (by omega) (px_fstS hno (by simp [px_lcP, c_14, c_43])) hP hD hS (lv_sub hl [0, 2, 3, 4, 5] rfl)
          · refine lv_aload_n hx hb dX3_leastInConflict_46 rfl (lv_at hl 2 rfl) ?_
            refine va_get (D := G) (ci := 3) (v := .ref (a 8)) (C := RX3) (T := TX3) (N := 5) hx hb hts hin3 hown hK hP 3 rfl rfl 1 (by decide) fl_15 (fun _ h9 => h9) rfl dX3_leastInConflict_47 ?_
            refine lv_iload hx hb dX3_leastInConflict_50 (lv_at hl 1 rfl) ?_
            refine fw_iald (j := i) (f := ss) hx hb hK hP 8 1 rfl rfl (by omega) (by decide) dX3_leastInConflict_52 ?_
            refine lv_iload_n hx hb dX3_leastInConflict_53 rfl (lv_at hl 3 rfl) ?_
            refine lv_icmp_eq (tgt := 70) hx hb dX3_leastInConflict_54 (by decide) (fun c_54 => ?_) (fun c_54 => ?_)
            · refine lv_iinc (v := nI (i + 1)) (lv' := [(4, .int (nI (i + 1))), (5, .int 1), (0, .ref (a 3)), (1, .int x1), (2, .int x2), (3, .int x3)]) hx hb dX3_leastInConflict_70 hl (k := 1) rfl (fw_inc _) (by decide) rfl (fun ls hl => ?_)
              refine lv_goto (tgt := 3) hx hb dX3_leastInConflict_73 (by decide) ?_
              exact ih_3 (i + 1) _ _ _ (by omega) (by omega) (px_fstS hno (by simp [px_lcP, c_14, c_43, c_54])) hP hD hS (lv_sub hl [0, 2, 3, 4, 5] rfl)
            · refine lv_iload hx hb dX3_leastInConflict_57 (lv_at hl 0 rfl) ?_
              refine lv_if_eq (tgt := 70) hx hb dX3_leastInConflict_59 (by decide) (fun c_59 => False.elim (absurd c_59 (by decide))) (fun c_59 => ?_)
              refine lv_aload_n hx hb dX3_leastInConflict_62 rfl (lv_at hl 2 rfl) ?_
              refine va_get (D := G) (ci := 3) (v := .ref (a 7)) (C := RX3) (T := TX3) (N := 5) hx hb hts hin3 hown hK hP 3 rfl rfl 0 (by decide) fl_9 (fun _ h9 => h9) rfl dX3_leastInConflict_63 ?_
              refine lv_iload hx hb dX3_leastInConflict_66 (lv_at hl 1 rfl) ?_
              refine fw_iald (j := i) (f := lk) hx hb hK hP 7 1 rfl rfl (by omega) (by decide) dX3_leastInConflict_68 ?_
              exact hri _ rfl (lk i) _ _ _ _ _ (rfl) (⟨by rw [px_lc, px_fstT hno (by simp [px_lcP, c_14, c_43, c_54]) hL], rfl⟩) hP hD hS dX3_leastInConflict_69
        · refine lv_aload_n hx hb dX3_leastInConflict_17 rfl (lv_at hl 1 rfl) ?_
          refine va_get (D := G) (ci := 3) (v := .ref (a 10)) (C := RX3) (T := TX3) (N := 5) hx hb hts hin3 hown hK hP 3 rfl rfl 3 (by decide) fl_21 (fun _ h9 => h9) rfl dX3_leastInConflict_18 ?_
          refine lv_iload hx hb dX3_leastInConflict_21 (lv_at hl 0 rfl) ?_
          refine fw_iald (j := i) (f := sg) hx hb hK hP 10 1 rfl rfl (by omega) (by decide) dX3_leastInConflict_23 ?_
          refine lv_iconst (v := 2) hx hb dX3_leastInConflict_24 (by decide) ?_
          refine lv_icmp_ne (tgt := 32) hx hb dX3_leastInConflict_25 (by decide) (fun c_25 => ?_) (fun c_25 => ?_)
          · refine lv_iconst (v := 0) hx hb dX3_leastInConflict_32 (by decide) ?_
            refine lv_istore (lv' := [(5, .int 0), (4, .int (nI i)), (0, .ref (a 3)), (1, .int x1), (2, .int x2), (3, .int x3)]) hx hb dX3_leastInConflict_33 hl (by decide) rfl (fun ls hl => ?_)
            refine lv_aload_n hx hb dX3_leastInConflict_35 rfl (lv_at hl 2 rfl) ?_
            refine va_get (D := G) (ci := 3) (v := .ref (a 9)) (C := RX3) (T := TX3) (N := 5) hx hb hts hin3 hown hK hP 3 rfl rfl 2 (by decide) fl_18 (fun _ h9 => h9) rfl dX3_leastInConflict_36 ?_
            refine lv_iload hx hb dX3_leastInConflict_39 (lv_at hl 1 rfl) ?_
            refine fw_iald (j := i) (f := rw) hx hb hK hP 9 1 rfl rfl (by omega) (by decide) dX3_leastInConflict_41 ?_
            refine lv_iload_n hx hb dX3_leastInConflict_42 rfl (lv_at hl 4 rfl) ?_
            refine lv_icmp_ne (tgt := 70) hx hb dX3_leastInConflict_43 (by decide) (fun c_43 => ?_) (fun c_43 => ?_)
            · refine lv_iinc (v := nI (i + 1)) (lv' := [(4, .int (nI (i + 1))), (5, .int 0), (0, .ref (a 3)), (1, .int x1), (2, .int x2), (3, .int x3)]) hx hb dX3_leastInConflict_70 hl (k := 1) rfl (fw_inc _) (by decide) rfl (fun ls hl => ?_)
              refine lv_goto (tgt := 3) hx hb dX3_leastInConflict_73 (by decide) ?_
              exact ih_3 (i + 1) _ _ _ (by omega) (by omega) (px_fstS hno (by simp [px_lcP, c_14, c_25, c_43])) hP hD hS (lv_sub hl [0, 2, 3, 4, 5] rfl)
            · refine lv_aload_n hx hb dX3_leastInConflict_46 rfl (lv_at hl 2 rfl) ?_
              refine va_get (D := G) (ci := 3) (v := .ref (a 8)) (C := RX3) (T := TX3) (N := 5) hx hb hts hin3 hown hK hP 3 rfl rfl 1 (by decide) fl_15 (fun _ h9 => h9) rfl dX3_leastInConflict_47 ?_
              refine lv_iload hx hb dX3_leastInConflict_50 (lv_at hl 1 rfl) ?_
              refine fw_iald (j := i) (f := ss) hx hb hK hP 8 1 rfl rfl (by omega) (by decide) dX3_leastInConflict_52 ?_
              refine lv_iload_n hx hb dX3_leastInConflict_53 rfl (lv_at hl 3 rfl) ?_
              refine lv_icmp_eq (tgt := 70) hx hb dX3_leastInConflict_54 (by decide) (fun c_54 => ?_) (fun c_54 => ?_)
              · refine lv_iinc (v := nI (i + 1)) (lv' := [(4, .int (nI (i + 1))), (5, .int 0), (0, .ref (a 3)), (1, .int x1), (2, .int x2), (3, .int x3)]) hx hb dX3_leastInConflict_70 hl (k := 1) rfl (fw_inc _) (by decide) rfl (fun ls hl => ?_)
                refine lv_goto (tgt := 3) hx hb dX3_leastInConflict_73 (by decide) ?_
                exact ih_3 (i + 1) _ _ _ (by omega) (by omega) (px_fstS hno (by simp [px_lcP, c_14, c_25, c_43, c_54])) hP hD hS (lv_sub hl [0, 2, 3, 4, 5] rfl)
              · refine lv_iload hx hb dX3_leastInConflict_57 (lv_at hl 0 rfl) ?_
                refine lv_if_eq (tgt := 70) hx hb dX3_leastInConflict_59 (by decide) (fun c_59 => ?_) (fun c_59 => absurd (rfl) c_59)
                refine lv_iinc (v := nI (i + 1)) (lv' := [(4, .int (nI (i + 1))), (5, .int 0), (0, .ref (a 3)), (1, .int x1), (2, .int x2), (3, .int x3)]) hx hb dX3_leastInConflict_70 hl (k := 1) rfl (fw_inc _) (by decide) rfl (fun ls hl => ?_)
                refine lv_goto (tgt := 3) hx hb dX3_leastInConflict_73 (by decide) ?_
                exact ih_3 (i + 1) _ _ _ (by omega) (by omega) (px_fstS hno (by simp [px_lcP, c_14, c_25, c_43, c_54])) hP hD hS (lv_sub hl [0, 2, 3, 4, 5] rfl)
          · refine lv_iconst (v := 1) hx hb dX3_leastInConflict_28 (by decide) ?_
            refine lv_goto (tgt := 33) hx hb dX3_leastInConflict_29 (by decide) ?_
            refine lv_istore (lv' := [(5, .int 1), (4, .int (nI i)), (0, .ref (a 3)), (1, .int x1), (2, .int x2), (3, .int x3)]) hx hb dX3_leastInConflict_33 hl (by decide) rfl (fun ls hl => ?_)
            refine lv_aload_n hx hb dX3_leastInConflict_35 rfl (lv_at hl 2 rfl) ?_
            refine va_get (D := G) (ci := 3) (v := .ref (a 9)) (C := RX3) (T := TX3) (N := 5) hx hb hts hin3 hown hK hP 3 rfl rfl 2 (by decide) fl_18 (fun _ h9 => h9) rfl dX3_leastInConflict_36 ?_
            refine lv_iload hx hb dX3_leastInConflict_39 (lv_at hl 1 rfl) ?_
            refine fw_iald (j := i) (f := rw) hx hb hK hP 9 1 rfl rfl (by omega) (by decide) dX3_leastInConflict_41 ?_
            refine lv_iload_n hx hb dX3_leastInConflict_42 rfl (lv_at hl 4 rfl) ?_
            refine lv_icmp_ne (tgt := 70) hx hb dX3_leastInConflict_43 (by decide) (fun c_43 => ?_) (fun c_43 => ?_)
            · refine lv_iinc (v := nI (i + 1)) (lv' := [(4, .int (nI (i + 1))), (5, .int 1), (0, .ref (a 3)), (1, .int x1), (2, .int x2), (3, .int x3)]) hx hb dX3_leastInConflict_70 hl (k := 1) rfl (fw_inc _) (by decide) rfl (fun ls hl => ?_)
              refine lv_goto (tgt := 3) hx hb dX3_leastInConflict_73 (by decide) ?_
              exact ih_3 (i + 1) _ _ _ (by omega) (by omega) (px_fstS hno (by simp [px_lcP, c_14, c_25, c_43])) hP hD hS (lv_sub hl [0, 2, 3, 4, 5] rfl)
            · refine lv_aload_n hx hb dX3_leastInConflict_46 rfl (lv_at hl 2 rfl) ?_
              refine va_get (D := G) (ci := 3) (v := .ref (a 8)) (C := RX3) (T := TX3) (N := 5) hx hb hts hin3 hown hK hP 3 rfl rfl 1 (by decide) fl_15 (fun _ h9 => h9) rfl dX3_leastInConflict_47 ?_
              refine lv_iload hx hb dX3_leastInConflict_50 (lv_at hl 1 rfl) ?_
              refine fw_iald (j := i) (f := ss) hx hb hK hP 8 1 rfl rfl (by omega) (by decide) dX3_leastInConflict_52 ?_
              refine lv_iload_n hx hb dX3_leastInConflict_53 rfl (lv_at hl 3 rfl) ?_
              refine lv_icmp_eq (tgt := 70) hx hb dX3_leastInConflict_54 (by decide) (fun c_54 => ?_) (fun c_54 => ?_)
              · refine lv_iinc (v := nI (i + 1)) (lv' := [(4, .int (nI (i + 1))), (5, .int 1), (0, .ref (a 3)), (1, .int x1), (2, .int x2), (3, .int x3)]) hx hb dX3_leastInConflict_70 hl (k := 1) rfl (fw_inc _) (by decide) rfl (fun ls hl => ?_)
                refine lv_goto (tgt := 3) hx hb dX3_leastInConflict_73 (by decide) ?_
                exact ih_3 (i + 1) _ _ _ (by omega) (by omega) (px_fstS hno (by simp [px_lcP, c_14, c_25, c_43, c_54])) hP hD hS (lv_sub hl [0, 2, 3, 4, 5] rfl)
              · refine lv_iload hx hb dX3_leastInConflict_57 (lv_at hl 0 rfl) ?_
                refine lv_if_eq (tgt := 70) hx hb dX3_leastInConflict_59 (by decide) (fun c_59 => False.elim (absurd c_59 (by decide))) (fun c_59 => ?_)
                refine lv_aload_n hx hb dX3_leastInConflict_62 rfl (lv_at hl 2 rfl) ?_
                refine va_get (D := G) (ci := 3) (v := .ref (a 7)) (C := RX3) (T := TX3) (N := 5) hx hb hts hin3 hown hK hP 3 rfl rfl 0 (by decide) fl_9 (fun _ h9 => h9) rfl dX3_leastInConflict_63 ?_
                refine lv_iload hx hb dX3_leastInConflict_66 (lv_at hl 1 rfl) ?_
                refine fw_iald (j := i) (f := lk) hx hb hK hP 7 1 rfl rfl (by omega) (by decide) dX3_leastInConflict_68 ?_
                exact hri _ rfl (lk i) _ _ _ _ _ (rfl) (⟨by rw [px_lc, px_fstT hno (by simp [px_lcP, c_14, c_25, c_43, c_54]) hL], rfl⟩) hP hD hS dX3_leastInConflict_69
  exact lp_3 _ 0 _ _ _ (Nat.lt_succ_self _) (by omega) (rfl) hP hD hS (lv_sub hl [0, 1, 2, 3, 4] rfl)

abbrev rmX3_copy : Room := { frames := 0, cells := 0, slots := 0, locals := 0 }
set_option maxHeartbeats 4000000 in
set_option maxRecDepth 100000 in
theorem c_X3_copy (l : Launch) (G : va_G) (cB cI cZ : ClassId) (tc : Nat) (a : Nat → Nat) (gv rc qc : Int32) (rn lv lk ss rw sg od aw tb md ql dr : Nat → Int32) (i : Nat) (j : Nat) (hi5 : i < 512) (hj5 : j < 512) : KC l yX3_copy wsX3_copy rmX3_copy G [(cB, .byte), (cI, .int), (cZ, .boolean)] tc [.ref (a 3), .int (nI i), .int (nI j)] (wd a cB cI cZ gv rn lv rc lk ss rw sg qc od aw tb md ql dr) (fun v w' => v = none ∧ w' = (wd a cB cI cZ gv rn lv rc (upd lk j (lk i)) (upd ss j (ss i)) (upd rw j (rw i)) (upd sg j (sg i)) qc od aw tb md ql dr)) := by
  refine KC.of (cc := cX3_copy) (maxL := 3) (ret := none) (by decide) rfl (Nat.le_of_ble_eq_true rfl) ?_
  intro p e s m below meth c args A Q ls hx hb hml hown hts hK hZ hA hP hD hS hl hri hrv
  have hown : s.vm.findClass RX3 = some m.cls := hown
  have hl : lv_has ls 3 [(0, .ref (a 3)), (1, .int (nI i)), (2, .int (nI j))] := hl
  have fl_9 := hts (.fieldLink RX3 9 "LockDesk$RowLocks" "lockers" "[I") (by decide +kernel)
  have fl_15 := hts (.fieldLink RX3 15 "LockDesk$RowLocks" "sessions" "[I") (by decide +kernel)
  have fl_18 := hts (.fieldLink RX3 18 "LockDesk$RowLocks" "rows" "[I") (by decide +kernel)
  have fl_21 := hts (.fieldLink RX3 21 "LockDesk$RowLocks" "strengths" "[I") (by decide +kernel)
  have hin3 : ∀ w ∈ wsX30, w ∈ wsX3_copy := by decide +kernel
  refine lv_aload_n hx hb dX3_copy_0 rfl (lv_at hl 0 rfl) ?_
  refine va_get (D := G) (ci := 3) (v := .ref (a 7)) (C := RX3) (T := TX3) (N := 5) hx hb hts hin3 hown hK hP 3 rfl rfl 0 (by decide) fl_9 (fun _ h9 => h9) rfl dX3_copy_1 ?_
  refine lv_iload_n hx hb dX3_copy_4 rfl (lv_at hl 2 rfl) ?_
  refine lv_aload_n hx hb dX3_copy_5 rfl (lv_at hl 0 rfl) ?_
  refine va_get (D := G) (ci := 3) (v := .ref (a 7)) (C := RX3) (T := TX3) (N := 5) hx hb hts hin3 hown hK hP 3 rfl rfl 0 (by decide) fl_9 (fun _ h9 => h9) rfl dX3_copy_6 ?_
  refine lv_iload_n hx hb dX3_copy_9 rfl (lv_at hl 1 rfl) ?_
  refine fw_iald (j := i) (f := lk) hx hb hK hP 7 1 rfl rfl (by omega) (by decide) dX3_copy_10 ?_
  refine fw_iast (j := j) (f := lk) (x := lk i) hx hb hK hP hD hS 7 1 rfl rfl (by omega) (by decide) dX3_copy_11 (fun H locs hP hD hS => ?_)
  have hP : va_P G vwCl (wd a cB cI cZ gv rn lv rc (upd lk j (lk i)) ss rw sg qc od aw tb md ql dr) H := hP
  have hD : va_D A (wd a cB cI cZ gv rn lv rc (upd lk j (lk i)) ss rw sg qc od aw tb md ql dr) := hD
  refine lv_aload_n hx hb dX3_copy_12 rfl (lv_at hl 0 rfl) ?_
  refine va_get (D := G) (ci := 3) (v := .ref (a 8)) (C := RX3) (T := TX3) (N := 5) hx hb hts hin3 hown hK hP 3 rfl rfl 1 (by decide) fl_15 (fun _ h9 => h9) rfl dX3_copy_13 ?_
  refine lv_iload_n hx hb dX3_copy_16 rfl (lv_at hl 2 rfl) ?_
  refine lv_aload_n hx hb dX3_copy_17 rfl (lv_at hl 0 rfl) ?_
  refine va_get (D := G) (ci := 3) (v := .ref (a 8)) (C := RX3) (T := TX3) (N := 5) hx hb hts hin3 hown hK hP 3 rfl rfl 1 (by decide) fl_15 (fun _ h9 => h9) rfl dX3_copy_18 ?_
  refine lv_iload_n hx hb dX3_copy_21 rfl (lv_at hl 1 rfl) ?_
  refine fw_iald (j := i) (f := ss) hx hb hK hP 8 1 rfl rfl (by omega) (by decide) dX3_copy_22 ?_
  refine fw_iast (j := j) (f := ss) (x := ss i) hx hb hK hP hD hS 8 1 rfl rfl (by omega) (by decide) dX3_copy_23 (fun H locs hP hD hS => ?_)
  have hP : va_P G vwCl (wd a cB cI cZ gv rn lv rc (upd lk j (lk i)) (upd ss j (ss i)) rw sg qc od aw tb md ql dr) H := hP
  have hD : va_D A (wd a cB cI cZ gv rn lv rc (upd lk j (lk i)) (upd ss j (ss i)) rw sg qc od aw tb md ql dr) := hD
  refine lv_aload_n hx hb dX3_copy_24 rfl (lv_at hl 0 rfl) ?_
  refine va_get (D := G) (ci := 3) (v := .ref (a 9)) (C := RX3) (T := TX3) (N := 5) hx hb hts hin3 hown hK hP 3 rfl rfl 2 (by decide) fl_18 (fun _ h9 => h9) rfl dX3_copy_25 ?_
  refine lv_iload_n hx hb dX3_copy_28 rfl (lv_at hl 2 rfl) ?_
  refine lv_aload_n hx hb dX3_copy_29 rfl (lv_at hl 0 rfl) ?_
  refine va_get (D := G) (ci := 3) (v := .ref (a 9)) (C := RX3) (T := TX3) (N := 5) hx hb hts hin3 hown hK hP 3 rfl rfl 2 (by decide) fl_18 (fun _ h9 => h9) rfl dX3_copy_30 ?_
  refine lv_iload_n hx hb dX3_copy_33 rfl (lv_at hl 1 rfl) ?_
  refine fw_iald (j := i) (f := rw) hx hb hK hP 9 1 rfl rfl (by omega) (by decide) dX3_copy_34 ?_
  refine fw_iast (j := j) (f := rw) (x := rw i) hx hb hK hP hD hS 9 1 rfl rfl (by omega) (by decide) dX3_copy_35 (fun H locs hP hD hS => ?_)
  have hP : va_P G vwCl (wd a cB cI cZ gv rn lv rc (upd lk j (lk i)) (upd ss j (ss i)) (upd rw j (rw i)) sg qc od aw tb md ql dr) H := hP
  have hD : va_D A (wd a cB cI cZ gv rn lv rc (upd lk j (lk i)) (upd ss j (ss i)) (upd rw j (rw i)) sg qc od aw tb md ql dr) := hD
  refine lv_aload_n hx hb dX3_copy_36 rfl (lv_at hl 0 rfl) ?_
  refine va_get (D := G) (ci := 3) (v := .ref (a 10)) (C := RX3) (T := TX3) (N := 5) hx hb hts hin3 hown hK hP 3 rfl rfl 3 (by decide) fl_21 (fun _ h9 => h9) rfl dX3_copy_37 ?_
  refine lv_iload_n hx hb dX3_copy_40 rfl (lv_at hl 2 rfl) ?_
  refine lv_aload_n hx hb dX3_copy_41 rfl (lv_at hl 0 rfl) ?_
  refine va_get (D := G) (ci := 3) (v := .ref (a 10)) (C := RX3) (T := TX3) (N := 5) hx hb hts hin3 hown hK hP 3 rfl rfl 3 (by decide) fl_21 (fun _ h9 => h9) rfl dX3_copy_42 ?_
  refine lv_iload_n hx hb dX3_copy_45 rfl (lv_at hl 1 rfl) ?_
  refine fw_iald (j := i) (f := sg) hx hb hK hP 10 1 rfl rfl (by omega) (by decide) dX3_copy_46 ?_
  refine fw_iast (j := j) (f := sg) (x := sg i) hx hb hK hP hD hS 10 1 rfl rfl (by omega) (by decide) dX3_copy_47 (fun H locs hP hD hS => ?_)
  have hP : va_P G vwCl (wd a cB cI cZ gv rn lv rc (upd lk j (lk i)) (upd ss j (ss i)) (upd rw j (rw i)) (upd sg j (sg i)) qc od aw tb md ql dr) H := hP
  have hD : va_D A (wd a cB cI cZ gv rn lv rc (upd lk j (lk i)) (upd ss j (ss i)) (upd rw j (rw i)) (upd sg j (sg i)) qc od aw tb md ql dr) := hD
  exact hrv rfl _ _ _ _ _ (⟨rfl, rfl⟩) hP hD hS dX3_copy_48

abbrev rmX3_forgetWhere : Room := { frames := 1, cells := 0, slots := 0, locals := 22 }
set_option maxHeartbeats 4000000 in
set_option maxRecDepth 100000 in
theorem c_X3_forgetWhere_n (l : Launch) (G : va_G) (cB cI cZ : ClassId) (tc : Nat) (a : Nat → Nat) (gv qc : Int32) (rn lv lk ss rw sg od aw tb md ql dr : Nat → Int32) (n : Nat) (x1 : Int32) (hn5 : n ≤ 512) : KC l yX3_forgetWhere wsX3_forgetWhere rmX3_forgetWhere G [(cB, .byte), (cI, .int), (cZ, .boolean)] tc [.ref (a 3), .ref (a 7), .int x1] (wd a cB cI cZ gv rn lv (nI n) lk ss rw sg qc od aw tb md ql dr) (fun v w' => v = none ∧ w' = (wd a cB cI cZ gv rn lv (nI (px_fw (fun q => q.1) x1 n (lk, ss, rw, sg)).1) ((px_fw (fun q => q.1) x1 n (lk, ss, rw, sg)).2.1) ((px_fw (fun q => q.1) x1 n (lk, ss, rw, sg)).2.2.1) ((px_fw (fun q => q.1) x1 n (lk, ss, rw, sg)).2.2.2.1) ((px_fw (fun q => q.1) x1 n (lk, ss, rw, sg)).2.2.2.2) qc od aw tb md ql dr)) := by
  refine KC.of (cc := cX3_forgetWhere) (maxL := 5) (ret := none) (by decide) rfl (Nat.le_of_ble_eq_true rfl) ?_
  intro p e s m below meth c args A Q ls hx hb hml hown hts hK hZ hA hP hD hS hl hri hrv
  have hown : s.vm.findClass RX3 = some m.cls := hown
  have hl : lv_has ls 5 [(0, .ref (a 3)), (1, .ref (a 7)), (2, .int x1)] := hl
  have fl_24 := hts (.fieldLink RX3 24 "LockDesk$RowLocks" "count" "I") (by decide +kernel)
  have hin3 : ∀ w ∈ wsX30, w ∈ wsX3_forgetWhere := by decide +kernel
  refine lv_iconst (v := 0) hx hb dX3_forgetWhere_0 (by decide) ?_
  refine lv_istore_n (lv' := [(3, .int 0), (0, .ref (a 3)), (1, .ref (a 7)), (2, .int x1)]) hx hb dX3_forgetWhere_1 rfl hl (by decide) rfl (fun ls hl => ?_)
  refine lv_iconst (v := 0) hx hb dX3_forgetWhere_2 (by decide) ?_
  refine lv_istore (lv' := [(4, .int 0), (3, .int 0), (0, .ref (a 3)), (1, .ref (a 7)), (2, .int x1)]) hx hb dX3_forgetWhere_3 hl (by decide) rfl (fun ls hl => ?_)
  have lp_5 : ∀ (nf : Nat) (i kp : Nat) (lk1 ss1 rw1 sg1 : Nat → Int32) (H : Heap) (locs : List Loc) (ls : Array Slot), n - i < nf → (i ≤ n) → (kp ≤ i) → ((kp, lk1, ss1, rw1, sg1) = fw_it (px_fwS (fun q => q.1) x1) i (0, lk, ss, rw, sg)) → va_P G vwCl (wd a cB cI cZ gv rn lv (nI n) lk1 ss1 rw1 sg1 qc od aw tb md ql dr) H → va_D A (wd a cB cI cZ gv rn lv (nI n) lk1 ss1 rw1 sg1 qc od aw tb md ql dr) → va_S A s.heap H locs → lv_has ls 5 [(4, .int (nI i)), (3, .int (nI kp)), (0, .ref (a 3)), (1, .ref (a 7)), (2, .int x1)] → W p l e rmX3_forgetWhere s m args below meth c H locs 0 0 Q (F0 m 5 ls []) := by
    intro nf
    induction nf with
    | zero => intro i kp lk1 ss1 rw1 sg1 H locs ls h0; exact absurd h0 (Nat.not_lt_zero _)
    | succ nf_5 ih_5 =>
      intro i kp lk1 ss1 rw1 sg1 H locs ls hn_5 hi hk hf hP hD hS hl
      refine lv_iload hx hb dX3_forgetWhere_5 (lv_at hl 0 rfl) ?_
      refine lv_aload_n hx hb dX3_forgetWhere_7 rfl (lv_at hl 2 rfl) ?_
      refine va_get (D := G) (ci := 3) (v := .int (nI n)) (C := RX3) (T := TX3) (N := 5) hx hb hts hin3 hown hK hP 3 rfl rfl 4 (by decide) fl_24 (fun _ h9 => h9) rfl dX3_forgetWhere_8 ?_
      refine lv_icmp_ge (tgt := 38) hx hb dX3_forgetWhere_11 (by decide) (fun c_11 => ?_) (fun c_11 => ?_)
      · have hE : i = n := by
          have := fw_nle c_11 (by omega) (by omega)
          omega
        refine lv_aload_n hx hb dX3_forgetWhere_38 rfl (lv_at hl 2 rfl) ?_
        refine lv_iload_n hx hb dX3_forgetWhere_39 rfl (lv_at hl 1 rfl) ?_
        refine va_put (D := G) (ci := 3) (v := .int (nI kp)) (ty := .int) (C := RX3) (T := TX3) (N := 5) hx hb hts hin3 tyX3 tyX3_ok nmX3 hown hK hP hD hS 3 rfl rfl 4 (by decide) fl_24 (fun _ h9 => h9) rfl (by decide +kernel) rfl rfl (Nat.le_of_ble_eq_true rfl) dX3_forgetWhere_40 (fun H locs hP hD hS => ?_)
        have hP : va_P G vwCl (wd a cB cI cZ gv rn lv (nI kp) lk1 ss1 rw1 sg1 qc od aw tb md ql dr) H := hP
        have hD : va_D A (wd a cB cI cZ gv rn lv (nI kp) lk1 ss1 rw1 sg1 qc od aw tb md ql dr) := hD
        exact hrv rfl _ _ _ _ _ (⟨rfl, by rw [px_fw, ← hE, ← hf]⟩) hP hD hS dX3_forgetWhere_43
      · have hL : i < n := by
          have := fw_nlt c_11 (by omega) (by omega)
          omega
        refine lv_aload_n hx hb dX3_forgetWhere_14 rfl (lv_at hl 3 rfl) ?_
        refine lv_iload hx hb dX3_forgetWhere_15 (lv_at hl 0 rfl) ?_
        refine fw_iald (j := i) (f := lk1) hx hb hK hP 7 1 rfl rfl (by omega) (by decide) dX3_forgetWhere_17 ?_
        refine lv_iload_n hx hb dX3_forgetWhere_18 rfl (lv_at hl 4 rfl) ?_
        refine lv_icmp_eq (tgt := 32) hx hb dX3_forgetWhere_19 (by decide) (fun c_19 => ?_) (fun c_19 => ?_)
        · refine lv_iinc (v := nI (i + 1)) (lv' := [(4, .int (nI (i + 1))), (3, .int (nI kp)), (0, .ref (a 3)), (1, .ref (a 7)), (2, .int x1)]) hx hb dX3_forgetWhere_32 hl (k := 0) rfl (fw_inc _) (by decide) rfl (fun ls hl => ?_)
          refine lv_goto (tgt := 5) hx hb dX3_forgetWhere_35 (by decide) ?_
          exact ih_5 (i + 1) kp lk1 ss1 rw1 sg1 _ _ _ (by omega) (by omega) (by omega) (by rw [fw_itS, ← hf]; simp [px_fwS, px_cp, c_19]) hP hD hS (lv_sub hl [0, 1, 2, 3, 4] rfl)
        · refine lv_aload_n hx hb dX3_forgetWhere_22 rfl (lv_at hl 2 rfl) ?_
          refine lv_iload hx hb dX3_forgetWhere_23 (lv_at hl 0 rfl) ?_
          refine lv_iload_n hx hb dX3_forgetWhere_25 rfl (lv_at hl 1 rfl) ?_
          refine kV (As := [.int (nI i), .int (nI kp)]) (rest := []) ⟨hx, hb, hml, hown, hts⟩ (c_X3_copy l G cB cI cZ tc a gv (nI n) qc rn lv lk1 ss1 rw1 sg1 od aw tb md ql dr i kp (by omega) (by omega)) (cwV 2 hts gX3_forgetWhere_X3_copy rfl rfl rfl (by decide +kernel) ⟨by decide, by decide⟩) hK hZ hA hP hD hS 3 3 rfl rfl rfl hl.1 rfl (Nat.le_of_ble_eq_true rfl) dX3_forgetWhere_26 ⟨Nat.zero_le _, Nat.zero_le _⟩ (fun v w' H locs hp hP hD hS => ?_)
          obtain ⟨rfl, rfl⟩ := hp
          have hP : va_P G vwCl (wd a cB cI cZ gv rn lv (nI n) (upd lk1 kp (lk1 i)) (upd ss1 kp (ss1 i)) (upd rw1 kp (rw1 i)) (upd sg1 kp (sg1 i)) qc od aw tb md ql dr) H := hP
          have hD : va_D A (wd a cB cI cZ gv rn lv (nI n) (upd lk1 kp (lk1 i)) (upd ss1 kp (ss1 i)) (upd rw1 kp (rw1 i)) (upd sg1 kp (sg1 i)) qc od aw tb md ql dr) := hD
          refine W.eq (g2 := F0 m 29 ls []) rfl ?_
          refine lv_iinc (v := nI (kp + 1)) (lv' := [(3, .int (nI (kp + 1))), (4, .int (nI i)), (0, .ref (a 3)), (1, .ref (a 7)), (2, .int x1)]) hx hb dX3_forgetWhere_29 hl (k := 1) rfl (fw_inc _) (by decide) rfl (fun ls hl => ?_)
          refine lv_iinc (v := nI (i + 1)) (lv' := [(4, .int (nI (i + 1))), (3, .int (nI (kp + 1))), (0, .ref (a 3)), (1, .ref (a 7)), (2, .int x1)]) hx hb dX3_forgetWhere_32 hl (k := 1) rfl (fw_inc _) (by decide) rfl (fun ls hl => ?_)
          refine lv_goto (tgt := 5) hx hb dX3_forgetWhere_35 (by decide) ?_
          exact ih_5 (i + 1) (kp + 1) (upd lk1 kp (lk1 i)) (upd ss1 kp (ss1 i)) (upd rw1 kp (rw1 i)) (upd sg1 kp (sg1 i)) _ _ _ (by omega) (by omega) (by omega) (by rw [fw_itS, ← hf]; simp [px_fwS, px_cp, c_19]) hP hD hS (lv_sub hl [0, 1, 2, 3, 4] rfl)
  exact lp_5 _ 0 0 lk ss rw sg _ _ _ (Nat.lt_succ_self _) (by omega) (by omega) (rfl) hP hD hS (lv_sub hl [0, 1, 2, 3, 4] rfl)

set_option maxHeartbeats 4000000 in
set_option maxRecDepth 100000 in
theorem c_X3_forgetWhere_r (l : Launch) (G : va_G) (cB cI cZ : ClassId) (tc : Nat) (a : Nat → Nat) (gv qc : Int32) (rn lv lk ss rw sg od aw tb md ql dr : Nat → Int32) (n : Nat) (x1 : Int32) (hn5 : n ≤ 512) : KC l yX3_forgetWhere wsX3_forgetWhere rmX3_forgetWhere G [(cB, .byte), (cI, .int), (cZ, .boolean)] tc [.ref (a 3), .ref (a 9), .int x1] (wd a cB cI cZ gv rn lv (nI n) lk ss rw sg qc od aw tb md ql dr) (fun v w' => v = none ∧ w' = (wd a cB cI cZ gv rn lv (nI (px_fw (fun q => q.2.2.1) x1 n (lk, ss, rw, sg)).1) ((px_fw (fun q => q.2.2.1) x1 n (lk, ss, rw, sg)).2.1) ((px_fw (fun q => q.2.2.1) x1 n (lk, ss, rw, sg)).2.2.1) ((px_fw (fun q => q.2.2.1) x1 n (lk, ss, rw, sg)).2.2.2.1) ((px_fw (fun q => q.2.2.1) x1 n (lk, ss, rw, sg)).2.2.2.2) qc od aw tb md ql dr)) := by
  refine KC.of (cc := cX3_forgetWhere) (maxL := 5) (ret := none) (by decide) rfl (Nat.le_of_ble_eq_true rfl) ?_
  intro p e s m below meth c args A Q ls hx hb hml hown hts hK hZ hA hP hD hS hl hri hrv
  have hown : s.vm.findClass RX3 = some m.cls := hown
  have hl : lv_has ls 5 [(0, .ref (a 3)), (1, .ref (a 9)), (2, .int x1)] := hl
  have fl_24 := hts (.fieldLink RX3 24 "LockDesk$RowLocks" "count" "I") (by decide +kernel)
  have hin3 : ∀ w ∈ wsX30, w ∈ wsX3_forgetWhere := by decide +kernel
  refine lv_iconst (v := 0) hx hb dX3_forgetWhere_0 (by decide) ?_
  refine lv_istore_n (lv' := [(3, .int 0), (0, .ref (a 3)), (1, .ref (a 9)), (2, .int x1)]) hx hb dX3_forgetWhere_1 rfl hl (by decide) rfl (fun ls hl => ?_)
  refine lv_iconst (v := 0) hx hb dX3_forgetWhere_2 (by decide) ?_
  refine lv_istore (lv' := [(4, .int 0), (3, .int 0), (0, .ref (a 3)), (1, .ref (a 9)), (2, .int x1)]) hx hb dX3_forgetWhere_3 hl (by decide) rfl (fun ls hl => ?_)
  have lp_5 : ∀ (nf : Nat) (i kp : Nat) (lk1 ss1 rw1 sg1 : Nat → Int32) (H : Heap) (locs : List Loc) (ls : Array Slot), n - i < nf → (i ≤ n) → (kp ≤ i) → ((kp, lk1, ss1, rw1, sg1) = fw_it (px_fwS (fun q => q.2.2.1) x1) i (0, lk, ss, rw, sg)) → va_P G vwCl (wd a cB cI cZ gv rn lv (nI n) lk1 ss1 rw1 sg1 qc od aw tb md ql dr) H → va_D A (wd a cB cI cZ gv rn lv (nI n) lk1 ss1 rw1 sg1 qc od aw tb md ql dr) → va_S A s.heap H locs → lv_has ls 5 [(4, .int (nI i)), (3, .int (nI kp)), (0, .ref (a 3)), (1, .ref (a 9)), (2, .int x1)] → W p l e rmX3_forgetWhere s m args below meth c H locs 0 0 Q (F0 m 5 ls []) := by
    intro nf
    induction nf with
    | zero => intro i kp lk1 ss1 rw1 sg1 H locs ls h0; exact absurd h0 (Nat.not_lt_zero _)
    | succ nf_5 ih_5 =>
      intro i kp lk1 ss1 rw1 sg1 H locs ls hn_5 hi hk hf hP hD hS hl
      refine lv_iload hx hb dX3_forgetWhere_5 (lv_at hl 0 rfl) ?_
      refine lv_aload_n hx hb dX3_forgetWhere_7 rfl (lv_at hl 2 rfl) ?_
      refine va_get (D := G) (ci := 3) (v := .int (nI n)) (C := RX3) (T := TX3) (N := 5) hx hb hts hin3 hown hK hP 3 rfl rfl 4 (by decide) fl_24 (fun _ h9 => h9) rfl dX3_forgetWhere_8 ?_
      refine lv_icmp_ge (tgt := 38) hx hb dX3_forgetWhere_11 (by decide) (fun c_11 => ?_) (fun c_11 => ?_)
      · have hE : i = n := by
          have := fw_nle c_11 (by omega) (by omega)
          omega
        refine lv_aload_n hx hb dX3_forgetWhere_38 rfl (lv_at hl 2 rfl) ?_
        refine lv_iload_n hx hb dX3_forgetWhere_39 rfl (lv_at hl 1 rfl) ?_
        refine va_put (D := G) (ci := 3) (v := .int (nI kp)) (ty := .int) (C := RX3) (T := TX3) (N := 5) hx hb hts hin3 tyX3 tyX3_ok nmX3 hown hK hP hD hS 3 rfl rfl 4 (by decide) fl_24 (fun _ h9 => h9) rfl (by decide +kernel) rfl rfl (Nat.le_of_ble_eq_true rfl) dX3_forgetWhere_40 (fun H locs hP hD hS => ?_)
        have hP : va_P G vwCl (wd a cB cI cZ gv rn lv (nI kp) lk1 ss1 rw1 sg1 qc od aw tb md ql dr) H := hP
        have hD : va_D A (wd a cB cI cZ gv rn lv (nI kp) lk1 ss1 rw1 sg1 qc od aw tb md ql dr) := hD
        exact hrv rfl _ _ _ _ _ (⟨rfl, by rw [px_fw, ← hE, ← hf]⟩) hP hD hS dX3_forgetWhere_43
      · have hL : i < n := by
          have := fw_nlt c_11 (by omega) (by omega)
          omega
        refine lv_aload_n hx hb dX3_forgetWhere_14 rfl (lv_at hl 3 rfl) ?_
        refine lv_iload hx hb dX3_forgetWhere_15 (lv_at hl 0 rfl) ?_
        refine fw_iald (j := i) (f := rw1) hx hb hK hP 9 1 rfl rfl (by omega) (by decide) dX3_forgetWhere_17 ?_
        refine lv_iload_n hx hb dX3_forgetWhere_18 rfl (lv_at hl 4 rfl) ?_
        refine lv_icmp_eq (tgt := 32) hx hb dX3_forgetWhere_19 (by decide) (fun c_19 => ?_) (fun c_19 => ?_)
        · refine lv_iinc (v := nI (i + 1)) (lv' := [(4, .int (nI (i + 1))), (3, .int (nI kp)), (0, .ref (a 3)), (1, .ref (a 9)), (2, .int x1)]) hx hb dX3_forgetWhere_32 hl (k := 0) rfl (fw_inc _) (by decide) rfl (fun ls hl => ?_)
          refine lv_goto (tgt := 5) hx hb dX3_forgetWhere_35 (by decide) ?_
          exact ih_5 (i + 1) kp lk1 ss1 rw1 sg1 _ _ _ (by omega) (by omega) (by omega) (by rw [fw_itS, ← hf]; simp [px_fwS, px_cp, c_19]) hP hD hS (lv_sub hl [0, 1, 2, 3, 4] rfl)
        · refine lv_aload_n hx hb dX3_forgetWhere_22 rfl (lv_at hl 2 rfl) ?_
          refine lv_iload hx hb dX3_forgetWhere_23 (lv_at hl 0 rfl) ?_
          refine lv_iload_n hx hb dX3_forgetWhere_25 rfl (lv_at hl 1 rfl) ?_
          refine kV (As := [.int (nI i), .int (nI kp)]) (rest := []) ⟨hx, hb, hml, hown, hts⟩ (c_X3_copy l G cB cI cZ tc a gv (nI n) qc rn lv lk1 ss1 rw1 sg1 od aw tb md ql dr i kp (by omega) (by omega)) (cwV 2 hts gX3_forgetWhere_X3_copy rfl rfl rfl (by decide +kernel) ⟨by decide, by decide⟩) hK hZ hA hP hD hS 3 3 rfl rfl rfl hl.1 rfl (Nat.le_of_ble_eq_true rfl) dX3_forgetWhere_26 ⟨Nat.zero_le _, Nat.zero_le _⟩ (fun v w' H locs hp hP hD hS => ?_)
          obtain ⟨rfl, rfl⟩ := hp
          have hP : va_P G vwCl (wd a cB cI cZ gv rn lv (nI n) (upd lk1 kp (lk1 i)) (upd ss1 kp (ss1 i)) (upd rw1 kp (rw1 i)) (upd sg1 kp (sg1 i)) qc od aw tb md ql dr) H := hP
          have hD : va_D A (wd a cB cI cZ gv rn lv (nI n) (upd lk1 kp (lk1 i)) (upd ss1 kp (ss1 i)) (upd rw1 kp (rw1 i)) (upd sg1 kp (sg1 i)) qc od aw tb md ql dr) := hD
          refine W.eq (g2 := F0 m 29 ls []) rfl ?_
          refine lv_iinc (v := nI (kp + 1)) (lv' := [(3, .int (nI (kp + 1))), (4, .int (nI i)), (0, .ref (a 3)), (1, .ref (a 9)), (2, .int x1)]) hx hb dX3_forgetWhere_29 hl (k := 1) rfl (fw_inc _) (by decide) rfl (fun ls hl => ?_)
          refine lv_iinc (v := nI (i + 1)) (lv' := [(4, .int (nI (i + 1))), (3, .int (nI (kp + 1))), (0, .ref (a 3)), (1, .ref (a 9)), (2, .int x1)]) hx hb dX3_forgetWhere_32 hl (k := 1) rfl (fw_inc _) (by decide) rfl (fun ls hl => ?_)
          refine lv_goto (tgt := 5) hx hb dX3_forgetWhere_35 (by decide) ?_
          exact ih_5 (i + 1) (kp + 1) (upd lk1 kp (lk1 i)) (upd ss1 kp (ss1 i)) (upd rw1 kp (rw1 i)) (upd sg1 kp (sg1 i)) _ _ _ (by omega) (by omega) (by omega) (by rw [fw_itS, ← hf]; simp [px_fwS, px_cp, c_19]) hP hD hS (lv_sub hl [0, 1, 2, 3, 4] rfl)
  exact lp_5 _ 0 0 lk ss rw sg _ _ _ (Nat.lt_succ_self _) (by omega) (by omega) (rfl) hP hD hS (lv_sub hl [0, 1, 2, 3, 4] rfl)

abbrev rmX3_forgetNumber : Room := { frames := 2, cells := 0, slots := 0, locals := 46 }
set_option maxHeartbeats 4000000 in
set_option maxRecDepth 100000 in
theorem c_X3_forgetNumber (l : Launch) (G : va_G) (cB cI cZ : ClassId) (tc : Nat) (a : Nat → Nat) (gv qc : Int32) (rn lv lk ss rw sg od aw tb md ql dr : Nat → Int32) (n : Nat) (x1 : Int32) (hn5 : n ≤ 512) : KC l yX3_forgetNumber wsX3_forgetNumber rmX3_forgetNumber G [(cB, .byte), (cI, .int), (cZ, .boolean)] tc [.ref (a 3), .int x1] (wd a cB cI cZ gv rn lv (nI n) lk ss rw sg qc od aw tb md ql dr) (fun v w' => v = none ∧ w' = (wd a cB cI cZ gv rn lv (nI (px_fw (fun q => q.1) x1 n (lk, ss, rw, sg)).1) ((px_fw (fun q => q.1) x1 n (lk, ss, rw, sg)).2.1) ((px_fw (fun q => q.1) x1 n (lk, ss, rw, sg)).2.2.1) ((px_fw (fun q => q.1) x1 n (lk, ss, rw, sg)).2.2.2.1) ((px_fw (fun q => q.1) x1 n (lk, ss, rw, sg)).2.2.2.2) qc od aw tb md ql dr)) := by
  refine KC.of (cc := cX3_forgetNumber) (maxL := 2) (ret := none) (by decide) rfl (Nat.le_of_ble_eq_true rfl) ?_
  intro p e s m below meth c args A Q ls hx hb hml hown hts hK hZ hA hP hD hS hl hri hrv
  have hown : s.vm.findClass RX3 = some m.cls := hown
  have hl : lv_has ls 2 [(0, .ref (a 3)), (1, .int x1)] := hl
  have fl_9 := hts (.fieldLink RX3 9 "LockDesk$RowLocks" "lockers" "[I") (by decide +kernel)
  have hin3 : ∀ w ∈ wsX30, w ∈ wsX3_forgetNumber := by decide +kernel
  refine lv_aload_n hx hb dX3_forgetNumber_0 rfl (lv_at hl 0 rfl) ?_
  refine lv_aload_n hx hb dX3_forgetNumber_1 rfl (lv_at hl 0 rfl) ?_
  refine va_get (D := G) (ci := 3) (v := .ref (a 7)) (C := RX3) (T := TX3) (N := 5) hx hb hts hin3 hown hK hP 3 rfl rfl 0 (by decide) fl_9 (fun _ h9 => h9) rfl dX3_forgetNumber_2 ?_
  refine lv_iload_n hx hb dX3_forgetNumber_5 rfl (lv_at hl 1 rfl) ?_
  refine kV (As := [.ref (a 7), .int x1]) (rest := []) ⟨hx, hb, hml, hown, hts⟩ (c_X3_forgetWhere_n l G cB cI cZ tc a gv qc rn lv lk ss rw sg od aw tb md ql dr n x1 hn5) (cwV 2 hts gX3_forgetNumber_X3_forgetWhere rfl rfl rfl (by decide +kernel) ⟨by decide, by decide⟩) hK hZ hA hP hD hS 3 3 rfl rfl rfl hl.1 rfl (Nat.le_of_ble_eq_true rfl) dX3_forgetNumber_6 ⟨Nat.zero_le _, Nat.zero_le _⟩ (fun v w' H locs hp hP hD hS => ?_)
  obtain ⟨rfl, rfl⟩ := hp
  have hP : va_P G vwCl (wd a cB cI cZ gv rn lv (nI (px_fw (fun q => q.1) x1 n (lk, ss, rw, sg)).1) ((px_fw (fun q => q.1) x1 n (lk, ss, rw, sg)).2.1) ((px_fw (fun q => q.1) x1 n (lk, ss, rw, sg)).2.2.1) ((px_fw (fun q => q.1) x1 n (lk, ss, rw, sg)).2.2.2.1) ((px_fw (fun q => q.1) x1 n (lk, ss, rw, sg)).2.2.2.2) qc od aw tb md ql dr) H := hP
  have hD : va_D A (wd a cB cI cZ gv rn lv (nI (px_fw (fun q => q.1) x1 n (lk, ss, rw, sg)).1) ((px_fw (fun q => q.1) x1 n (lk, ss, rw, sg)).2.1) ((px_fw (fun q => q.1) x1 n (lk, ss, rw, sg)).2.2.1) ((px_fw (fun q => q.1) x1 n (lk, ss, rw, sg)).2.2.2.1) ((px_fw (fun q => q.1) x1 n (lk, ss, rw, sg)).2.2.2.2) qc od aw tb md ql dr) := hD
  refine W.eq (g2 := F0 m 9 ls []) rfl ?_
  exact hrv rfl _ _ _ _ _ (⟨rfl, rfl⟩) hP hD hS dX3_forgetNumber_9

abbrev rmX3_forgetRow : Room := { frames := 2, cells := 0, slots := 0, locals := 46 }
set_option maxHeartbeats 4000000 in
set_option maxRecDepth 100000 in
theorem c_X3_forgetRow (l : Launch) (G : va_G) (cB cI cZ : ClassId) (tc : Nat) (a : Nat → Nat) (gv qc : Int32) (rn lv lk ss rw sg od aw tb md ql dr : Nat → Int32) (n : Nat) (x1 : Int32) (hn5 : n ≤ 512) : KC l yX3_forgetRow wsX3_forgetRow rmX3_forgetRow G [(cB, .byte), (cI, .int), (cZ, .boolean)] tc [.ref (a 3), .int x1] (wd a cB cI cZ gv rn lv (nI n) lk ss rw sg qc od aw tb md ql dr) (fun v w' => v = none ∧ w' = (wd a cB cI cZ gv rn lv (nI (px_fw (fun q => q.2.2.1) x1 n (lk, ss, rw, sg)).1) ((px_fw (fun q => q.2.2.1) x1 n (lk, ss, rw, sg)).2.1) ((px_fw (fun q => q.2.2.1) x1 n (lk, ss, rw, sg)).2.2.1) ((px_fw (fun q => q.2.2.1) x1 n (lk, ss, rw, sg)).2.2.2.1) ((px_fw (fun q => q.2.2.1) x1 n (lk, ss, rw, sg)).2.2.2.2) qc od aw tb md ql dr)) := by
  refine KC.of (cc := cX3_forgetRow) (maxL := 2) (ret := none) (by decide) rfl (Nat.le_of_ble_eq_true rfl) ?_
  intro p e s m below meth c args A Q ls hx hb hml hown hts hK hZ hA hP hD hS hl hri hrv
  have hown : s.vm.findClass RX3 = some m.cls := hown
  have hl : lv_has ls 2 [(0, .ref (a 3)), (1, .int x1)] := hl
  have fl_18 := hts (.fieldLink RX3 18 "LockDesk$RowLocks" "rows" "[I") (by decide +kernel)
  have hin3 : ∀ w ∈ wsX30, w ∈ wsX3_forgetRow := by decide +kernel
  refine lv_aload_n hx hb dX3_forgetRow_0 rfl (lv_at hl 0 rfl) ?_
  refine lv_aload_n hx hb dX3_forgetRow_1 rfl (lv_at hl 0 rfl) ?_
  refine va_get (D := G) (ci := 3) (v := .ref (a 9)) (C := RX3) (T := TX3) (N := 5) hx hb hts hin3 hown hK hP 3 rfl rfl 2 (by decide) fl_18 (fun _ h9 => h9) rfl dX3_forgetRow_2 ?_
  refine lv_iload_n hx hb dX3_forgetRow_5 rfl (lv_at hl 1 rfl) ?_
  refine kV (As := [.ref (a 9), .int x1]) (rest := []) ⟨hx, hb, hml, hown, hts⟩ (c_X3_forgetWhere_r l G cB cI cZ tc a gv qc rn lv lk ss rw sg od aw tb md ql dr n x1 hn5) (cwV 2 hts gX3_forgetRow_X3_forgetWhere rfl rfl rfl (by decide +kernel) ⟨by decide, by decide⟩) hK hZ hA hP hD hS 3 3 rfl rfl rfl hl.1 rfl (Nat.le_of_ble_eq_true rfl) dX3_forgetRow_6 ⟨Nat.zero_le _, Nat.zero_le _⟩ (fun v w' H locs hp hP hD hS => ?_)
  obtain ⟨rfl, rfl⟩ := hp
  have hP : va_P G vwCl (wd a cB cI cZ gv rn lv (nI (px_fw (fun q => q.2.2.1) x1 n (lk, ss, rw, sg)).1) ((px_fw (fun q => q.2.2.1) x1 n (lk, ss, rw, sg)).2.1) ((px_fw (fun q => q.2.2.1) x1 n (lk, ss, rw, sg)).2.2.1) ((px_fw (fun q => q.2.2.1) x1 n (lk, ss, rw, sg)).2.2.2.1) ((px_fw (fun q => q.2.2.1) x1 n (lk, ss, rw, sg)).2.2.2.2) qc od aw tb md ql dr) H := hP
  have hD : va_D A (wd a cB cI cZ gv rn lv (nI (px_fw (fun q => q.2.2.1) x1 n (lk, ss, rw, sg)).1) ((px_fw (fun q => q.2.2.1) x1 n (lk, ss, rw, sg)).2.1) ((px_fw (fun q => q.2.2.1) x1 n (lk, ss, rw, sg)).2.2.1) ((px_fw (fun q => q.2.2.1) x1 n (lk, ss, rw, sg)).2.2.2.1) ((px_fw (fun q => q.2.2.1) x1 n (lk, ss, rw, sg)).2.2.2.2) qc od aw tb md ql dr) := hD
  refine W.eq (g2 := F0 m 9 ls []) rfl ?_
  exact hrv rfl _ _ _ _ _ (⟨rfl, rfl⟩) hP hD hS dX3_forgetRow_9

abbrev rmX3_signedNumberAt : Room := { frames := 0, cells := 0, slots := 0, locals := 0 }
set_option maxHeartbeats 4000000 in
set_option maxRecDepth 100000 in
theorem c_X3_signedNumberAt (l : Launch) (G : va_G) (cB cI cZ : ClassId) (tc : Nat) (a : Nat → Nat) (gv qc : Int32) (rn lv lk ss rw sg od aw tb md ql dr : Nat → Int32) (n : Nat) (x1 : Int32) (x2 : Int32) (hn5 : n ≤ 512) : KC l yX3_signedNumberAt wsX3_signedNumberAt rmX3_signedNumberAt G [(cB, .byte), (cI, .int), (cZ, .boolean)] tc [.ref (a 3), .int x1, .int x2] (wd a cB cI cZ gv rn lv (nI n) lk ss rw sg qc od aw tb md ql dr) (fun v w' => v = some (.int (px_sn n lk rw sg x1 x2)) ∧ w' = (wd a cB cI cZ gv rn lv (nI n) lk ss rw sg qc od aw tb md ql dr)) := by
  refine KC.of (cc := cX3_signedNumberAt) (maxL := 5) (ret := some .int) (by decide) rfl (Nat.le_of_ble_eq_true rfl) ?_
  intro p e s m below meth c args A Q ls hx hb hml hown hts hK hZ hA hP hD hS hl hri hrv
  have hown : s.vm.findClass RX3 = some m.cls := hown
  have hl : lv_has ls 5 [(0, .ref (a 3)), (1, .int x1), (2, .int x2)] := hl
  have fl_9 := hts (.fieldLink RX3 9 "LockDesk$RowLocks" "lockers" "[I") (by decide +kernel)
  have fl_18 := hts (.fieldLink RX3 18 "LockDesk$RowLocks" "rows" "[I") (by decide +kernel)
  have fl_21 := hts (.fieldLink RX3 21 "LockDesk$RowLocks" "strengths" "[I") (by decide +kernel)
  have fl_24 := hts (.fieldLink RX3 24 "LockDesk$RowLocks" "count" "I") (by decide +kernel)
  have hin3 : ∀ w ∈ wsX30, w ∈ wsX3_signedNumberAt := by decide +kernel
  refine lv_iconst (v := 0) hx hb dX3_signedNumberAt_0 (by decide) ?_
  refine lv_istore_n (lv' := [(3, .int 0), (0, .ref (a 3)), (1, .int x1), (2, .int x2)]) hx hb dX3_signedNumberAt_1 rfl hl (by decide) rfl (fun ls hl => ?_)
  refine lv_iconst (v := 0) hx hb dX3_signedNumberAt_2 (by decide) ?_
  refine lv_istore (lv' := [(4, .int 0), (3, .int 0), (0, .ref (a 3)), (1, .int x1), (2, .int x2)]) hx hb dX3_signedNumberAt_3 hl (by decide) rfl (fun ls hl => ?_)
  have lp_5 : ∀ (nf : Nat) (i : Nat) (H : Heap) (locs : List Loc) (ls : Array Slot), n - i < nf → (i ≤ n) → (px_fst (px_snP rw x1 x2) i = none) → va_P G vwCl (wd a cB cI cZ gv rn lv (nI n) lk ss rw sg qc od aw tb md ql dr) H → va_D A (wd a cB cI cZ gv rn lv (nI n) lk ss rw sg qc od aw tb md ql dr) → va_S A s.heap H locs → lv_has ls 5 [(4, .int (nI i)), (3, .int (nI (px_cnt (px_rowP rw x1) i))), (0, .ref (a 3)), (1, .int x1), (2, .int x2)] → W p l e rmX3_signedNumberAt s m args below meth c H locs 0 0 Q (F0 m 5 ls []) := by
    intro nf
    induction nf with
    | zero => intro i H locs ls h0; exact absurd h0 (Nat.not_lt_zero _)
    | succ nf_5 ih_5 =>
      intro i H locs ls hn_5 hi hno hP hD hS hl
      refine lv_iload hx hb dX3_signedNumberAt_5 (lv_at hl 0 rfl) ?_
      refine lv_aload_n hx hb dX3_signedNumberAt_7 rfl (lv_at hl 2 rfl) ?_
      refine va_get (D := G) (ci := 3) (v := .int (nI n)) (C := RX3) (T := TX3) (N := 5) hx hb hts hin3 hown hK hP 3 rfl rfl 4 (by decide) fl_24 (fun _ h9 => h9) rfl dX3_signedNumberAt_8 ?_
      refine lv_icmp_ge (tgt := 72) hx hb dX3_signedNumberAt_11 (by decide) (fun c_11 => ?_) (fun c_11 => ?_)
      · have hE : i = n := by
          have := fw_nle c_11 (by omega) (by omega)
          omega
        refine lv_iconst (v := 0) hx hb dX3_signedNumberAt_72 (by decide) ?_
        exact hri _ rfl 0 _ _ _ _ _ (rfl) (⟨by rw [px_sn, ← hE, hno], rfl⟩) hP hD hS dX3_signedNumberAt_73
      · have hL : i < n := by
          have := fw_nlt c_11 (by omega) (by omega)
          omega
        refine lv_aload_n hx hb dX3_signedNumberAt_14 rfl (lv_at hl 2 rfl) ?_
        refine va_get (D := G) (ci := 3) (v := .ref (a 9)) (C := RX3) (T := TX3) (N := 5) hx hb hts hin3 hown hK hP 3 rfl rfl 2 (by decide) fl_18 (fun _ h9 => h9) rfl dX3_signedNumberAt_15 ?_
        refine lv_iload hx hb dX3_signedNumberAt_18 (lv_at hl 0 rfl) ?_
        refine fw_iald (j := i) (f := rw) hx hb hK hP 9 1 rfl rfl (by omega) (by decide) dX3_signedNumberAt_20 ?_
        refine lv_iload_n hx hb dX3_signedNumberAt_21 rfl (lv_at hl 3 rfl) ?_
        refine lv_icmp_eq (tgt := 28) hx hb dX3_signedNumberAt_22 (by decide) (fun c_22 => ?_) (fun c_22 => ?_)
        · refine lv_iload_n hx hb dX3_signedNumberAt_28 rfl (lv_at hl 1 rfl) ?_
          refine lv_iload_n hx hb dX3_signedNumberAt_29 rfl (lv_at hl 4 rfl) ?_
          refine lv_icmp_ne (tgt := 63) hx hb dX3_signedNumberAt_30 (by decide) (fun c_30 => ?_) (fun c_30 => ?_)
          · refine lv_iinc (v := nI (px_cnt (px_rowP rw x1) (i + 1))) (lv' := [(3, .int (nI (px_cnt (px_rowP rw x1) (i + 1)))), (4, .int (nI i)), (0, .ref (a 3)), (1, .int x1), (2, .int x2)]) hx hb dX3_signedNumberAt_63 hl (k := 1) rfl (by simp only [px_cnt, px_rowP, c_22, decide_true, if_true]; exact fw_inc _) (by decide) rfl (fun ls hl => ?_)
            refine lv_iinc (v := nI (i + 1)) (lv' := [(4, .int (nI (i + 1))), (3, .int (nI (px_cnt (px_rowP rw x1) (i + 1)))), (0, .ref (a 3)), (1, .int x1), (2, .int x2)]) hx hb dX3_signedNumberAt_66 hl (k := 1) rfl (fw_inc _) (by decide) rfl (fun ls hl => ?_)
            refine lv_goto (tgt := 5) hx hb dX3_signedNumberAt_69 (by decide) ?_
            exact ih_5 (i + 1) _ _ _ (by omega) (by omega) (px_fstS hno (by simp [px_snP, c_22, c_30])) hP hD hS (lv_sub hl [0, 1, 2, 3, 4] rfl)
          · refine lv_aload_n hx hb dX3_signedNumberAt_33 rfl (lv_at hl 2 rfl) ?_
            refine va_get (D := G) (ci := 3) (v := .ref (a 10)) (C := RX3) (T := TX3) (N := 5) hx hb hts hin3 hown hK hP 3 rfl rfl 3 (by decide) fl_21 (fun _ h9 => h9) rfl dX3_signedNumberAt_34 ?_
            refine lv_iload hx hb dX3_signedNumberAt_37 (lv_at hl 0 rfl) ?_
            refine fw_iald (j := i) (f := sg) hx hb hK hP 10 1 rfl rfl (by omega) (by decide) dX3_signedNumberAt_39 ?_
            refine lv_iconst (v := 2) hx hb dX3_signedNumberAt_40 (by decide) ?_
            refine lv_icmp_ne (tgt := 54) hx hb dX3_signedNumberAt_41 (by decide) (fun c_41 => ?_) (fun c_41 => ?_)
            · refine lv_aload_n hx hb dX3_signedNumberAt_54 rfl (lv_at hl 2 rfl) ?_
              refine va_get (D := G) (ci := 3) (v := .ref (a 7)) (C := RX3) (T := TX3) (N := 5) hx hb hts hin3 hown hK hP 3 rfl rfl 0 (by decide) fl_9 (fun _ h9 => h9) rfl dX3_signedNumberAt_55 ?_
              refine lv_iload hx hb dX3_signedNumberAt_58 (lv_at hl 0 rfl) ?_
              refine fw_iald (j := i) (f := lk) hx hb hK hP 7 1 rfl rfl (by omega) (by decide) dX3_signedNumberAt_60 ?_
              refine lv_ineg hx hb dX3_signedNumberAt_61 ?_
              exact hri _ rfl (-(lk i)) _ _ _ _ _ (rfl) (⟨by rw [px_sn, px_fstT hno (by simp [px_snP, c_22, c_30]) hL]; simp [c_41], rfl⟩) hP hD hS dX3_signedNumberAt_62
            · refine lv_aload_n hx hb dX3_signedNumberAt_44 rfl (lv_at hl 2 rfl) ?_
              refine va_get (D := G) (ci := 3) (v := .ref (a 7)) (C := RX3) (T := TX3) (N := 5) hx hb hts hin3 hown hK hP 3 rfl rfl 0 (by decide) fl_9 (fun _ h9 => h9) rfl dX3_signedNumberAt_45 ?_
              refine lv_iload hx hb dX3_signedNumberAt_48 (lv_at hl 0 rfl) ?_
              refine fw_iald (j := i) (f := lk) hx hb hK hP 7 1 rfl rfl (by omega) (by decide) dX3_signedNumberAt_50 ?_
              refine lv_goto (tgt := 62) hx hb dX3_signedNumberAt_51 (by decide) ?_
              exact hri _ rfl (lk i) _ _ _ _ _ (rfl) (⟨by rw [px_sn, px_fstT hno (by simp [px_snP, c_22, c_30]) hL]; simp [c_41], rfl⟩) hP hD hS dX3_signedNumberAt_62
        · refine lv_goto (tgt := 66) hx hb dX3_signedNumberAt_25 (by decide) ?_
          refine lv_iinc (v := nI (i + 1)) (lv' := [(4, .int (nI (i + 1))), (3, .int (nI (px_cnt (px_rowP rw x1) i))), (0, .ref (a 3)), (1, .int x1), (2, .int x2)]) hx hb dX3_signedNumberAt_66 hl (k := 0) rfl (fw_inc _) (by decide) rfl (fun ls hl => ?_)
          have eC : px_cnt (px_rowP rw x1) (i + 1) = px_cnt (px_rowP rw x1) i := by simp [px_cnt, px_rowP, c_22]
          rw [← eC] at hl
          refine lv_goto (tgt := 5) hx hb dX3_signedNumberAt_69 (by decide) ?_
          exact ih_5 (i + 1) _ _ _ (by omega) (by omega) (px_fstS hno (by simp [px_snP, c_22])) hP hD hS (lv_sub hl [0, 1, 2, 3, 4] rfl)
  exact lp_5 _ 0 _ _ _ (Nat.lt_succ_self _) (by omega) (rfl) hP hD hS (lv_sub hl [0, 1, 2, 3, 4] rfl)

abbrev rmX3_note : Room := { frames := 1, cells := 0, slots := 0, locals := 22 }
set_option maxHeartbeats 4000000 in
set_option maxRecDepth 100000 in
theorem c_X3_note (l : Launch) (G : va_G) (cB cI cZ : ClassId) (tc : Nat) (a : Nat → Nat) (gv qc : Int32) (rn lv lk ss rw sg od aw tb md ql dr : Nat → Int32) (n : Nat) (x1 : Int32) (x2 : Int32) (x3 : Int32) (x4 : Int32) (hn5 : n < 512) : KC l yX3_note wsX3_note rmX3_note G [(cB, .byte), (cI, .int), (cZ, .boolean)] tc [.ref (a 3), .int x1, .int x2, .int x3, .int x4] (wd a cB cI cZ gv rn lv (nI n) lk ss rw sg qc od aw tb md ql dr) (fun v w' => v = some (.int 1) ∧ ((∃ i, i < n ∧ px_foundAt lk rw x1 x3 i ∧ w' = (wd a cB cI cZ gv rn lv (nI n) lk ss rw (upd sg i x4) qc od aw tb md ql dr)) ∨ (∃ p, p ≤ n ∧ px_placeAt n lk rw x1 x3 p ∧ w' = (wd a cB cI cZ gv rn lv (nI (n + 1)) ((px_put p x1 x2 x3 x4 (px_sh n p (lk, ss, rw, sg))).1) ((px_put p x1 x2 x3 x4 (px_sh n p (lk, ss, rw, sg))).2.1) ((px_put p x1 x2 x3 x4 (px_sh n p (lk, ss, rw, sg))).2.2.1) ((px_put p x1 x2 x3 x4 (px_sh n p (lk, ss, rw, sg))).2.2.2) qc od aw tb md ql dr)))) := by
  refine KC.of (cc := cX3_note) (maxL := 7) (ret := some .boolean) (by decide) rfl (Nat.le_of_ble_eq_true rfl) ?_
  intro p e s m below meth c args A Q ls hx hb hml hown hts hK hZ hA hP hD hS hl hri hrv
  have hown : s.vm.findClass RX3 = some m.cls := hown
  have hl : lv_has ls 7 [(0, .ref (a 3)), (1, .int x1), (2, .int x2), (3, .int x3), (4, .int x4)] := hl
  have fl_9 := hts (.fieldLink RX3 9 "LockDesk$RowLocks" "lockers" "[I") (by decide +kernel)
  have fl_15 := hts (.fieldLink RX3 15 "LockDesk$RowLocks" "sessions" "[I") (by decide +kernel)
  have fl_18 := hts (.fieldLink RX3 18 "LockDesk$RowLocks" "rows" "[I") (by decide +kernel)
  have fl_21 := hts (.fieldLink RX3 21 "LockDesk$RowLocks" "strengths" "[I") (by decide +kernel)
  have fl_24 := hts (.fieldLink RX3 24 "LockDesk$RowLocks" "count" "I") (by decide +kernel)
  have hin3 : ∀ w ∈ wsX30, w ∈ wsX3_note := by decide +kernel
  refine lv_iconst (v := 0) hx hb dX3_note_0 (by decide) ?_
  refine lv_istore (lv' := [(5, .int 0), (0, .ref (a 3)), (1, .int x1), (2, .int x2), (3, .int x3), (4, .int x4)]) hx hb dX3_note_1 hl (by decide) rfl (fun ls hl => ?_)
  have lp_3 : ∀ (nf : Nat) (i : Nat) (H : Heap) (locs : List Loc) (ls : Array Slot), n - i < nf → (i ≤ n) → (∀ j, j < i → ¬ x1 < lk j ∧ ¬ (lk j = x1 ∧ rw j = x3)) → va_P G vwCl (wd a cB cI cZ gv rn lv (nI n) lk ss rw sg qc od aw tb md ql dr) H → va_D A (wd a cB cI cZ gv rn lv (nI n) lk ss rw sg qc od aw tb md ql dr) → va_S A s.heap H locs → lv_has ls 7 [(5, .int (nI i)), (0, .ref (a 3)), (1, .int x1), (2, .int x2), (3, .int x3), (4, .int x4)] → W p l e rmX3_note s m args below meth c H locs 0 0 Q (F0 m 3 ls []) := by
    intro nf
    induction nf with
    | zero => intro i H locs ls h0; exact absurd h0 (Nat.not_lt_zero _)
    | succ nf_3 ih_3 =>
      intro i H locs ls hn_3 hi hall hP hD hS hl
      refine lv_iload hx hb dX3_note_3 (lv_at hl 0 rfl) ?_
      refine lv_aload_n hx hb dX3_note_5 rfl (lv_at hl 1 rfl) ?_
      refine va_get (D := G) (ci := 3) (v := .int (nI n)) (C := RX3) (T := TX3) (N := 5) hx hb hts hin3 hown hK hP 3 rfl rfl 4 (by decide) fl_24 (fun _ h9 => h9) rfl dX3_note_6 ?_
      refine lv_icmp_ge (tgt := 62) hx hb dX3_note_9 (by decide) (fun c_9 => ?_) (fun c_9 => ?_)
      · have hE : i = n := by
          have := fw_nle c_9 (by omega) (by omega)
          omega
        have hpl : px_placeAt n lk rw x1 x3 i := ⟨hall, Or.inl hE⟩
        refine lv_aload_n hx hb dX3_note_62 rfl (lv_at hl 1 rfl) ?_
        refine va_get (D := G) (ci := 3) (v := .int (nI n)) (C := RX3) (T := TX3) (N := 5) hx hb hts hin3 hown hK hP 3 rfl rfl 4 (by decide) fl_24 (fun _ h9 => h9) rfl dX3_note_63 ?_
        refine lv_sipush (v := 512) hx hb dX3_note_66 (by decide) ?_
        refine lv_icmp_lt (tgt := 74) hx hb dX3_note_69 (by decide) (fun c_69 => ?_) (fun c_69 => absurd ((nI_ltI (b := 512) (by omega) (by decide)).mpr hn5) c_69)
        refine lv_aload_n hx hb dX3_note_74 rfl (lv_at hl 1 rfl) ?_
        refine va_get (D := G) (ci := 3) (v := .int (nI n)) (C := RX3) (T := TX3) (N := 5) hx hb hts hin3 hown hK hP 3 rfl rfl 4 (by decide) fl_24 (fun _ h9 => h9) rfl dX3_note_75 ?_
        refine lv_istore (lv' := [(6, .int (nI n)), (5, .int (nI i)), (0, .ref (a 3)), (1, .int x1), (2, .int x2), (3, .int x3), (4, .int x4)]) hx hb dX3_note_78 hl (by decide) rfl (fun ls hl => ?_)
        have lp_80 : ∀ (nf : Nat) (t : Nat) (lk1 ss1 rw1 sg1 : Nat → Int32) (H : Heap) (locs : List Loc) (ls : Array Slot), n - i - t < nf → (t ≤ n - i) → ((lk1, ss1, rw1, sg1) = fw_it (px_shS n) t (lk, ss, rw, sg)) → va_P G vwCl (wd a cB cI cZ gv rn lv (nI n) lk1 ss1 rw1 sg1 qc od aw tb md ql dr) H → va_D A (wd a cB cI cZ gv rn lv (nI n) lk1 ss1 rw1 sg1 qc od aw tb md ql dr) → va_S A s.heap H locs → lv_has ls 7 [(6, .int (nI (n - t))), (5, .int (nI i)), (0, .ref (a 3)), (1, .int x1), (2, .int x2), (3, .int x3), (4, .int x4)] → W p l e rmX3_note s m args below meth c H locs 0 0 Q (F0 m 80 ls []) := by
          intro nf
          induction nf with
          | zero => intro t lk1 ss1 rw1 sg1 H locs ls h0; exact absurd h0 (Nat.not_lt_zero _)
          | succ nf_80 ih_80 =>
            intro t lk1 ss1 rw1 sg1 H locs ls hn_80 ht hf hP hD hS hl
            refine lv_iload hx hb dX3_note_80 (lv_at hl 0 rfl) ?_
            refine lv_iload hx hb dX3_note_82 (lv_at hl 1 rfl) ?_
            refine lv_icmp_le (tgt := 103) hx hb dX3_note_84 (by decide) (fun c_84 => ?_) (fun c_84 => ?_)
            · have hT : t = n - i := by
                have := fw_nle c_84 (by omega) (by omega)
                omega
              refine lv_aload_n hx hb dX3_note_103 rfl (lv_at hl 2 rfl) ?_
              refine va_get (D := G) (ci := 3) (v := .ref (a 7)) (C := RX3) (T := TX3) (N := 5) hx hb hts hin3 hown hK hP 3 rfl rfl 0 (by decide) fl_9 (fun _ h9 => h9) rfl dX3_note_104 ?_
              refine lv_iload hx hb dX3_note_107 (lv_at hl 1 rfl) ?_
              refine lv_iload_n hx hb dX3_note_109 rfl (lv_at hl 3 rfl) ?_
              refine fw_iast (j := i) (f := lk1) (x := x1) hx hb hK hP hD hS 7 1 rfl rfl (by omega) (by decide) dX3_note_110 (fun H locs hP hD hS => ?_)
              have hP : va_P G vwCl (wd a cB cI cZ gv rn lv (nI n) (upd lk1 i x1) ss1 rw1 sg1 qc od aw tb md ql dr) H := hP
              have hD : va_D A (wd a cB cI cZ gv rn lv (nI n) (upd lk1 i x1) ss1 rw1 sg1 qc od aw tb md ql dr) := hD
              refine lv_aload_n hx hb dX3_note_111 rfl (lv_at hl 2 rfl) ?_
              refine va_get (D := G) (ci := 3) (v := .ref (a 8)) (C := RX3) (T := TX3) (N := 5) hx hb hts hin3 hown hK hP 3 rfl rfl 1 (by decide) fl_15 (fun _ h9 => h9) rfl dX3_note_112 ?_
              refine lv_iload hx hb dX3_note_115 (lv_at hl 1 rfl) ?_
              refine lv_iload_n hx hb dX3_note_117 rfl (lv_at hl 4 rfl) ?_
              refine fw_iast (j := i) (f := ss1) (x := x2) hx hb hK hP hD hS 8 1 rfl rfl (by omega) (by decide) dX3_note_118 (fun H locs hP hD hS => ?_)
              have hP : va_P G vwCl (wd a cB cI cZ gv rn lv (nI n) (upd lk1 i x1) (upd ss1 i x2) rw1 sg1 qc od aw tb md ql dr) H := hP
              have hD : va_D A (wd a cB cI cZ gv rn lv (nI n) (upd lk1 i x1) (upd ss1 i x2) rw1 sg1 qc od aw tb md ql dr) := hD
              refine lv_aload_n hx hb dX3_note_119 rfl (lv_at hl 2 rfl) ?_
              refine va_get (D := G) (ci := 3) (v := .ref (a 9)) (C := RX3) (T := TX3) (N := 5) hx hb hts hin3 hown hK hP 3 rfl rfl 2 (by decide) fl_18 (fun _ h9 => h9) rfl dX3_note_120 ?_
              refine lv_iload hx hb dX3_note_123 (lv_at hl 1 rfl) ?_
              refine lv_iload_n hx hb dX3_note_125 rfl (lv_at hl 5 rfl) ?_
              refine fw_iast (j := i) (f := rw1) (x := x3) hx hb hK hP hD hS 9 1 rfl rfl (by omega) (by decide) dX3_note_126 (fun H locs hP hD hS => ?_)
              have hP : va_P G vwCl (wd a cB cI cZ gv rn lv (nI n) (upd lk1 i x1) (upd ss1 i x2) (upd rw1 i x3) sg1 qc od aw tb md ql dr) H := hP
              have hD : va_D A (wd a cB cI cZ gv rn lv (nI n) (upd lk1 i x1) (upd ss1 i x2) (upd rw1 i x3) sg1 qc od aw tb md ql dr) := hD
              refine lv_aload_n hx hb dX3_note_127 rfl (lv_at hl 2 rfl) ?_
              refine va_get (D := G) (ci := 3) (v := .ref (a 10)) (C := RX3) (T := TX3) (N := 5) hx hb hts hin3 hown hK hP 3 rfl rfl 3 (by decide) fl_21 (fun _ h9 => h9) rfl dX3_note_128 ?_
              refine lv_iload hx hb dX3_note_131 (lv_at hl 1 rfl) ?_
              refine lv_iload hx hb dX3_note_133 (lv_at hl 6 rfl) ?_
              refine fw_iast (j := i) (f := sg1) (x := x4) hx hb hK hP hD hS 10 1 rfl rfl (by omega) (by decide) dX3_note_135 (fun H locs hP hD hS => ?_)
              have hP : va_P G vwCl (wd a cB cI cZ gv rn lv (nI n) (upd lk1 i x1) (upd ss1 i x2) (upd rw1 i x3) (upd sg1 i x4) qc od aw tb md ql dr) H := hP
              have hD : va_D A (wd a cB cI cZ gv rn lv (nI n) (upd lk1 i x1) (upd ss1 i x2) (upd rw1 i x3) (upd sg1 i x4) qc od aw tb md ql dr) := hD
              refine lv_aload_n hx hb dX3_note_136 rfl (lv_at hl 2 rfl) ?_
              refine lv_dup hx hb dX3_note_137 rfl ?_
              refine va_get (D := G) (ci := 3) (v := .int (nI n)) (C := RX3) (T := TX3) (N := 5) hx hb hts hin3 hown hK hP 3 rfl rfl 4 (by decide) fl_24 (fun _ h9 => h9) rfl dX3_note_138 ?_
              refine lv_iconst (v := 1) hx hb dX3_note_141 (by decide) ?_
              refine lv_iadd hx hb dX3_note_142 ?_
              rw [nI_1 n]
              refine va_put (D := G) (ci := 3) (v := .int (nI (n + 1))) (ty := .int) (C := RX3) (T := TX3) (N := 5) hx hb hts hin3 tyX3 tyX3_ok nmX3 hown hK hP hD hS 3 rfl rfl 4 (by decide) fl_24 (fun _ h9 => h9) rfl (by decide +kernel) rfl rfl (Nat.le_of_ble_eq_true rfl) dX3_note_143 (fun H locs hP hD hS => ?_)
              have hP : va_P G vwCl (wd a cB cI cZ gv rn lv (nI (n + 1)) (upd lk1 i x1) (upd ss1 i x2) (upd rw1 i x3) (upd sg1 i x4) qc od aw tb md ql dr) H := hP
              have hD : va_D A (wd a cB cI cZ gv rn lv (nI (n + 1)) (upd lk1 i x1) (upd ss1 i x2) (upd rw1 i x3) (upd sg1 i x4) qc od aw tb md ql dr) := hD
              refine lv_iconst (v := 1) hx hb dX3_note_146 (by decide) ?_
              exact hri _ rfl 1 _ _ _ _ _ (by decide) (⟨rfl, Or.inr ⟨i, hi, hpl, by rw [px_sh, ← hT, ← hf]; rfl⟩⟩) hP hD hS dX3_note_147
            · have hT : t < n - i := by
                have := fw_nlt c_84 (by omega) (by omega)
                omega
              refine lv_aload_n hx hb dX3_note_87 rfl (lv_at hl 2 rfl) ?_
              refine lv_iload hx hb dX3_note_88 (lv_at hl 0 rfl) ?_
              refine lv_iconst (v := 1) hx hb dX3_note_90 (by decide) ?_
              refine lv_isub hx hb dX3_note_91 ?_
              rw [show nI (n - t) - 1 = nI (n - t - 1) from pk_sub (a := n - t) (b := 1) (by omega)]
              refine lv_iload hx hb dX3_note_92 (lv_at hl 0 rfl) ?_
              refine kV (As := [.int (nI (n - t - 1)), .int (nI (n - t))]) (rest := []) ⟨hx, hb, hml, hown, hts⟩ (c_X3_copy l G cB cI cZ tc a gv (nI n) qc rn lv lk1 ss1 rw1 sg1 od aw tb md ql dr (n - t - 1) (n - t) (by omega) (by omega)) (cwV 2 hts gX3_note_X3_copy rfl rfl rfl (by decide +kernel) ⟨by decide, by decide⟩) hK hZ hA hP hD hS 3 3 rfl rfl rfl hl.1 rfl (Nat.le_of_ble_eq_true rfl) dX3_note_94 ⟨Nat.zero_le _, Nat.zero_le _⟩ (fun v w' H locs hp hP hD hS => ?_)
              obtain ⟨rfl, rfl⟩ := hp
              have hP : va_P G vwCl (wd a cB cI cZ gv rn lv (nI n) (upd lk1 (n - t) (lk1 (n - t - 1))) (upd ss1 (n - t) (ss1 (n - t - 1))) (upd rw1 (n - t) (rw1 (n - t - 1))) (upd sg1 (n - t) (sg1 (n - t - 1))) qc od aw tb md ql dr) H := hP
              have hD : va_D A (wd a cB cI cZ gv rn lv (nI n) (upd lk1 (n - t) (lk1 (n - t - 1))) (upd ss1 (n - t) (ss1 (n - t - 1))) (upd rw1 (n - t) (rw1 (n - t - 1))) (upd sg1 (n - t) (sg1 (n - t - 1))) qc od aw tb md ql dr) := hD
              refine W.eq (g2 := F0 m 97 ls []) rfl ?_
              refine lv_iinc (v := nI (n - (t + 1))) (lv' := [(6, .int (nI (n - (t + 1)))), (5, .int (nI i)), (0, .ref (a 3)), (1, .int x1), (2, .int x2), (3, .int x3), (4, .int x4)]) hx hb dX3_note_97 hl (k := 0) rfl (by rw [show n - t = (n - (t + 1)) + 1 by omega]; exact pk_m1 _) (by decide) rfl (fun ls hl => ?_)
              refine lv_goto (tgt := 80) hx hb dX3_note_100 (by decide) ?_
              exact ih_80 (t + 1) (upd lk1 (n - t) (lk1 (n - t - 1))) (upd ss1 (n - t) (ss1 (n - t - 1))) (upd rw1 (n - t) (rw1 (n - t - 1))) (upd sg1 (n - t) (sg1 (n - t - 1))) _ _ _ (by omega) (by omega) (by rw [fw_itS, ← hf]; rfl) hP hD hS (lv_sub hl [0, 1, 2, 3, 4, 5, 6] rfl)
        exact lp_80 _ 0 lk ss rw sg _ _ _ (Nat.lt_succ_self _) (by omega) (rfl) hP hD hS (lv_sub hl [0, 1, 2, 3, 4, 5, 6] rfl)
      · have hL : i < n := by
          have := fw_nlt c_9 (by omega) (by omega)
          omega
        refine lv_aload_n hx hb dX3_note_12 rfl (lv_at hl 1 rfl) ?_
        refine va_get (D := G) (ci := 3) (v := .ref (a 7)) (C := RX3) (T := TX3) (N := 5) hx hb hts hin3 hown hK hP 3 rfl rfl 0 (by decide) fl_9 (fun _ h9 => h9) rfl dX3_note_13 ?_
        refine lv_iload hx hb dX3_note_16 (lv_at hl 0 rfl) ?_
        refine fw_iald (j := i) (f := lk) hx hb hK hP 7 1 rfl rfl (by omega) (by decide) dX3_note_18 ?_
        refine lv_iload_n hx hb dX3_note_19 rfl (lv_at hl 2 rfl) ?_
        refine lv_icmp_gt (tgt := 62) hx hb dX3_note_20 (by decide) (fun c_20 => ?_) (fun c_20 => ?_)
        · have hpl : px_placeAt n lk rw x1 x3 i := ⟨hall, Or.inr c_20⟩
          refine lv_aload_n hx hb dX3_note_62 rfl (lv_at hl 1 rfl) ?_
          refine va_get (D := G) (ci := 3) (v := .int (nI n)) (C := RX3) (T := TX3) (N := 5) hx hb hts hin3 hown hK hP 3 rfl rfl 4 (by decide) fl_24 (fun _ h9 => h9) rfl dX3_note_63 ?_
          refine lv_sipush (v := 512) hx hb dX3_note_66 (by decide) ?_
          refine lv_icmp_lt (tgt := 74) hx hb dX3_note_69 (by decide) (fun c_69 => ?_) (fun c_69 => absurd ((nI_ltI (b := 512) (by omega) (by decide)).mpr hn5) c_69)
          refine lv_aload_n hx hb dX3_note_74 rfl (lv_at hl 1 rfl) ?_
          refine va_get (D := G) (ci := 3) (v := .int (nI n)) (C := RX3) (T := TX3) (N := 5) hx hb hts hin3 hown hK hP 3 rfl rfl 4 (by decide) fl_24 (fun _ h9 => h9) rfl dX3_note_75 ?_
          refine lv_istore (lv' := [(6, .int (nI n)), (5, .int (nI i)), (0, .ref (a 3)), (1, .int x1), (2, .int x2), (3, .int x3), (4, .int x4)]) hx hb dX3_note_78 hl (by decide) rfl (fun ls hl => ?_)
          have lp_80 : ∀ (nf : Nat) (t : Nat) (lk1 ss1 rw1 sg1 : Nat → Int32) (H : Heap) (locs : List Loc) (ls : Array Slot), n - i - t < nf → (t ≤ n - i) → ((lk1, ss1, rw1, sg1) = fw_it (px_shS n) t (lk, ss, rw, sg)) → va_P G vwCl (wd a cB cI cZ gv rn lv (nI n) lk1 ss1 rw1 sg1 qc od aw tb md ql dr) H → va_D A (wd a cB cI cZ gv rn lv (nI n) lk1 ss1 rw1 sg1 qc od aw tb md ql dr) → va_S A s.heap H locs → lv_has ls 7 [(6, .int (nI (n - t))), (5, .int (nI i)), (0, .ref (a 3)), (1, .int x1), (2, .int x2), (3, .int x3), (4, .int x4)] → W p l e rmX3_note s m args below meth c H locs 0 0 Q (F0 m 80 ls []) := by
            intro nf
            induction nf with
            | zero => intro t lk1 ss1 rw1 sg1 H locs ls h0; exact absurd h0 (Nat.not_lt_zero _)
            | succ nf_80 ih_80 =>
              intro t lk1 ss1 rw1 sg1 H locs ls hn_80 ht hf hP hD hS hl
              refine lv_iload hx hb dX3_note_80 (lv_at hl 0 rfl) ?_
              refine lv_iload hx hb dX3_note_82 (lv_at hl 1 rfl) ?_
              refine lv_icmp_le (tgt := 103) hx hb dX3_note_84 (by decide) (fun c_84 => ?_) (fun c_84 => ?_)
              · have hT : t = n - i := by
                  have := fw_nle c_84 (by omega) (by omega)
                  omega
                refine lv_aload_n hx hb dX3_note_103 rfl (lv_at hl 2 rfl) ?_
                refine va_get (D := G) (ci := 3) (v := .ref (a 7)) (C := RX3) (T := TX3) (N := 5) hx hb hts hin3 hown hK hP 3 rfl rfl 0 (by decide) fl_9 (fun _ h9 => h9) rfl dX3_note_104 ?_
                refine lv_iload hx hb dX3_note_107 (lv_at hl 1 rfl) ?_
                refine lv_iload_n hx hb dX3_note_109 rfl (lv_at hl 3 rfl) ?_
                refine fw_iast (j := i) (f := lk1) (x := x1) hx hb hK hP hD hS 7 1 rfl rfl (by omega) (by decide) dX3_note_110 (fun H locs hP hD hS => ?_)
                have hP : va_P G vwCl (wd a cB cI cZ gv rn lv (nI n) (upd lk1 i x1) ss1 rw1 sg1 qc od aw tb md ql dr) H := hP
                have hD : va_D A (wd a cB cI cZ gv rn lv (nI n) (upd lk1 i x1) ss1 rw1 sg1 qc od aw tb md ql dr) := hD
                refine lv_aload_n hx hb dX3_note_111 rfl (lv_at hl 2 rfl) ?_
                refine va_get (D := G) (ci := 3) (v := .ref (a 8)) (C := RX3) (T := TX3) (N := 5) hx hb hts hin3 hown hK hP 3 rfl rfl 1 (by decide) fl_15 (fun _ h9 => h9) rfl dX3_note_112 ?_
                refine lv_iload hx hb dX3_note_115 (lv_at hl 1 rfl) ?_
                refine lv_iload_n hx hb dX3_note_117 rfl (lv_at hl 4 rfl) ?_
                refine fw_iast (j := i) (f := ss1) (x := x2) hx hb hK hP hD hS 8 1 rfl rfl (by omega) (by decide) dX3_note_118 (fun H locs hP hD hS => ?_)
                have hP : va_P G vwCl (wd a cB cI cZ gv rn lv (nI n) (upd lk1 i x1) (upd ss1 i x2) rw1 sg1 qc od aw tb md ql dr) H := hP
                have hD : va_D A (wd a cB cI cZ gv rn lv (nI n) (upd lk1 i x1) (upd ss1 i x2) rw1 sg1 qc od aw tb md ql dr) := hD
                refine lv_aload_n hx hb dX3_note_119 rfl (lv_at hl 2 rfl) ?_
                refine va_get (D := G) (ci := 3) (v := .ref (a 9)) (C := RX3) (T := TX3) (N := 5) hx hb hts hin3 hown hK hP 3 rfl rfl 2 (by decide) fl_18 (fun _ h9 => h9) rfl dX3_note_120 ?_
                refine lv_iload hx hb dX3_note_123 (lv_at hl 1 rfl) ?_
                refine lv_iload_n hx hb dX3_note_125 rfl (lv_at hl 5 rfl) ?_
                refine fw_iast (j := i) (f := rw1) (x := x3) hx hb hK hP hD hS 9 1 rfl rfl (by omega) (by decide) dX3_note_126 (fun H locs hP hD hS => ?_)
                have hP : va_P G vwCl (wd a cB cI cZ gv rn lv (nI n) (upd lk1 i x1) (upd ss1 i x2) (upd rw1 i x3) sg1 qc od aw tb md ql dr) H := hP
                have hD : va_D A (wd a cB cI cZ gv rn lv (nI n) (upd lk1 i x1) (upd ss1 i x2) (upd rw1 i x3) sg1 qc od aw tb md ql dr) := hD
                refine lv_aload_n hx hb dX3_note_127 rfl (lv_at hl 2 rfl) ?_
                refine va_get (D := G) (ci := 3) (v := .ref (a 10)) (C := RX3) (T := TX3) (N := 5) hx hb hts hin3 hown hK hP 3 rfl rfl 3 (by decide) fl_21 (fun _ h9 => h9) rfl dX3_note_128 ?_
                refine lv_iload hx hb dX3_note_131 (lv_at hl 1 rfl) ?_
                refine lv_iload hx hb dX3_note_133 (lv_at hl 6 rfl) ?_
                refine fw_iast (j := i) (f := sg1) (x := x4) hx hb hK hP hD hS 10 1 rfl rfl (by omega) (by decide) dX3_note_135 (fun H locs hP hD hS => ?_)
                have hP : va_P G vwCl (wd a cB cI cZ gv rn lv (nI n) (upd lk1 i x1) (upd ss1 i x2) (upd rw1 i x3) (upd sg1 i x4) qc od aw tb md ql dr) H := hP
                have hD : va_D A (wd a cB cI cZ gv rn lv (nI n) (upd lk1 i x1) (upd ss1 i x2) (upd rw1 i x3) (upd sg1 i x4) qc od aw tb md ql dr) := hD
                refine lv_aload_n hx hb dX3_note_136 rfl (lv_at hl 2 rfl) ?_
                refine lv_dup hx hb dX3_note_137 rfl ?_
                refine va_get (D := G) (ci := 3) (v := .int (nI n)) (C := RX3) (T := TX3) (N := 5) hx hb hts hin3 hown hK hP 3 rfl rfl 4 (by decide) fl_24 (fun _ h9 => h9) rfl dX3_note_138 ?_
                refine lv_iconst (v := 1) hx hb dX3_note_141 (by decide) ?_
                refine lv_iadd hx hb dX3_note_142 ?_
                rw [nI_1 n]
                refine va_put (D := G) (ci := 3) (v := .int (nI (n + 1))) (ty := .int) (C := RX3) (T := TX3) (N := 5) hx hb hts hin3 tyX3 tyX3_ok nmX3 hown hK hP hD hS 3 rfl rfl 4 (by decide) fl_24 (fun _ h9 => h9) rfl (by decide +kernel) rfl rfl (Nat.le_of_ble_eq_true rfl) dX3_note_143 (fun H locs hP hD hS => ?_)
                have hP : va_P G vwCl (wd a cB cI cZ gv rn lv (nI (n + 1)) (upd lk1 i x1) (upd ss1 i x2) (upd rw1 i x3) (upd sg1 i x4) qc od aw tb md ql dr) H := hP
                have hD : va_D A (wd a cB cI cZ gv rn lv (nI (n + 1)) (upd lk1 i x1) (upd ss1 i x2) (upd rw1 i x3) (upd sg1 i x4) qc od aw tb md ql dr) := hD
                refine lv_iconst (v := 1) hx hb dX3_note_146 (by decide) ?_
                exact hri _ rfl 1 _ _ _ _ _ (by decide) (⟨rfl, Or.inr ⟨i, hi, hpl, by rw [px_sh, ← hT, ← hf]; rfl⟩⟩) hP hD hS dX3_note_147
              · have hT : t < n - i := by
                  have := fw_nlt c_84 (by omega) (by omega)
                  omega
                refine lv_aload_n hx hb dX3_note_87 rfl (lv_at hl 2 rfl) ?_
                refine lv_iload hx hb dX3_note_88 (lv_at hl 0 rfl) ?_
                refine lv_iconst (v := 1) hx hb dX3_note_90 (by decide) ?_
                refine lv_isub hx hb dX3_note_91 ?_
                rw [show nI (n - t) - 1 = nI (n - t - 1) from pk_sub (a := n - t) (b := 1) (by omega)]
                refine lv_iload hx hb dX3_note_92 (lv_at hl 0 rfl) ?_
                refine kV (As := [.int (nI (n - t - 1)), .int (nI (n - t))]) (rest := []) ⟨hx, hb, hml, hown, hts⟩ (c_X3_copy l G cB cI cZ tc a gv (nI n) qc rn lv lk1 ss1 rw1 sg1 od aw tb md ql dr (n - t - 1) (n - t) (by omega) (by omega)) (cwV 2 hts gX3_note_X3_copy rfl rfl rfl (by decide +kernel) ⟨by decide, by decide⟩) hK hZ hA hP hD hS 3 3 rfl rfl rfl hl.1 rfl (Nat.le_of_ble_eq_true rfl) dX3_note_94 ⟨Nat.zero_le _, Nat.zero_le _⟩ (fun v w' H locs hp hP hD hS => ?_)
                obtain ⟨rfl, rfl⟩ := hp
                have hP : va_P G vwCl (wd a cB cI cZ gv rn lv (nI n) (upd lk1 (n - t) (lk1 (n - t - 1))) (upd ss1 (n - t) (ss1 (n - t - 1))) (upd rw1 (n - t) (rw1 (n - t - 1))) (upd sg1 (n - t) (sg1 (n - t - 1))) qc od aw tb md ql dr) H := hP
                have hD : va_D A (wd a cB cI cZ gv rn lv (nI n) (upd lk1 (n - t) (lk1 (n - t - 1))) (upd ss1 (n - t) (ss1 (n - t - 1))) (upd rw1 (n - t) (rw1 (n - t - 1))) (upd sg1 (n - t) (sg1 (n - t - 1))) qc od aw tb md ql dr) := hD
                refine W.eq (g2 := F0 m 97 ls []) rfl ?_
                refine lv_iinc (v := nI (n - (t + 1))) (lv' := [(6, .int (nI (n - (t + 1)))), (5, .int (nI i)), (0, .ref (a 3)), (1, .int x1), (2, .int x2), (3, .int x3), (4, .int x4)]) hx hb dX3_note_97 hl (k := 0) rfl (by rw [show n - t = (n - (t + 1)) + 1 by omega]; exact pk_m1 _) (by decide) rfl (fun ls hl => ?_)
                refine lv_goto (tgt := 80) hx hb dX3_note_100 (by decide) ?_
                exact ih_80 (t + 1) (upd lk1 (n - t) (lk1 (n - t - 1))) (upd ss1 (n - t) (ss1 (n - t - 1))) (upd rw1 (n - t) (rw1 (n - t - 1))) (upd sg1 (n - t) (sg1 (n - t - 1))) _ _ _ (by omega) (by omega) (by rw [fw_itS, ← hf]; rfl) hP hD hS (lv_sub hl [0, 1, 2, 3, 4, 5, 6] rfl)
          exact lp_80 _ 0 lk ss rw sg _ _ _ (Nat.lt_succ_self _) (by omega) (rfl) hP hD hS (lv_sub hl [0, 1, 2, 3, 4, 5, 6] rfl)
        · refine lv_aload_n hx hb dX3_note_23 rfl (lv_at hl 1 rfl) ?_
          refine va_get (D := G) (ci := 3) (v := .ref (a 7)) (C := RX3) (T := TX3) (N := 5) hx hb hts hin3 hown hK hP 3 rfl rfl 0 (by decide) fl_9 (fun _ h9 => h9) rfl dX3_note_24 ?_
          refine lv_iload hx hb dX3_note_27 (lv_at hl 0 rfl) ?_
          refine fw_iald (j := i) (f := lk) hx hb hK hP 7 1 rfl rfl (by omega) (by decide) dX3_note_29 ?_
          refine lv_iload_n hx hb dX3_note_30 rfl (lv_at hl 2 rfl) ?_
          refine lv_icmp_ne (tgt := 56) hx hb dX3_note_31 (by decide) (fun c_31 => ?_) (fun c_31 => ?_)
          · refine lv_iinc (v := nI (i + 1)) (lv' := [(5, .int (nI (i + 1))), (0, .ref (a 3)), (1, .int x1), (2, .int x2), (3, .int x3), (4, .int x4)]) hx hb dX3_note_56 hl (k := 0) rfl (fw_inc _) (by decide) rfl (fun ls hl => ?_)
            refine lv_goto (tgt := 3) hx hb dX3_note_59 (by decide) ?_
            exact ih_3 (i + 1) _ _ _ (by omega) (by omega) (fun j hj => by
            rcases Nat.lt_succ_iff_lt_or_eq.mp hj with h | h
            · exact hall j h
            · subst h; exact ⟨c_20, by simp [c_31]⟩) hP hD hS (lv_sub hl [0, 1, 2, 3, 4, 5] rfl)
          · refine lv_aload_n hx hb dX3_note_34 rfl (lv_at hl 1 rfl) ?_
            refine va_get (D := G) (ci := 3) (v := .ref (a 9)) (C := RX3) (T := TX3) (N := 5) hx hb hts hin3 hown hK hP 3 rfl rfl 2 (by decide) fl_18 (fun _ h9 => h9) rfl dX3_note_35 ?_
            refine lv_iload hx hb dX3_note_38 (lv_at hl 0 rfl) ?_
            refine fw_iald (j := i) (f := rw) hx hb hK hP 9 1 rfl rfl (by omega) (by decide) dX3_note_40 ?_
            refine lv_iload_n hx hb dX3_note_41 rfl (lv_at hl 4 rfl) ?_
            refine lv_icmp_ne (tgt := 56) hx hb dX3_note_42 (by decide) (fun c_42 => ?_) (fun c_42 => ?_)
            · refine lv_iinc (v := nI (i + 1)) (lv' := [(5, .int (nI (i + 1))), (0, .ref (a 3)), (1, .int x1), (2, .int x2), (3, .int x3), (4, .int x4)]) hx hb dX3_note_56 hl (k := 0) rfl (fw_inc _) (by decide) rfl (fun ls hl => ?_)
              refine lv_goto (tgt := 3) hx hb dX3_note_59 (by decide) ?_
              exact ih_3 (i + 1) _ _ _ (by omega) (by omega) (fun j hj => by
            rcases Nat.lt_succ_iff_lt_or_eq.mp hj with h | h
            · exact hall j h
            · subst h; exact ⟨c_20, by simp [c_31, c_42]⟩) hP hD hS (lv_sub hl [0, 1, 2, 3, 4, 5] rfl)
            · refine lv_aload_n hx hb dX3_note_45 rfl (lv_at hl 1 rfl) ?_
              refine va_get (D := G) (ci := 3) (v := .ref (a 10)) (C := RX3) (T := TX3) (N := 5) hx hb hts hin3 hown hK hP 3 rfl rfl 3 (by decide) fl_21 (fun _ h9 => h9) rfl dX3_note_46 ?_
              refine lv_iload hx hb dX3_note_49 (lv_at hl 0 rfl) ?_
              refine lv_iload hx hb dX3_note_51 (lv_at hl 5 rfl) ?_
              refine fw_iast (j := i) (f := sg) (x := x4) hx hb hK hP hD hS 10 1 rfl rfl (by omega) (by decide) dX3_note_53 (fun H locs hP hD hS => ?_)
              have hP : va_P G vwCl (wd a cB cI cZ gv rn lv (nI n) lk ss rw (upd sg i x4) qc od aw tb md ql dr) H := hP
              have hD : va_D A (wd a cB cI cZ gv rn lv (nI n) lk ss rw (upd sg i x4) qc od aw tb md ql dr) := hD
              refine lv_iconst (v := 1) hx hb dX3_note_54 (by decide) ?_
              exact hri _ rfl 1 _ _ _ _ _ (by decide) (⟨rfl, Or.inl ⟨i, hL, ⟨c_31, c_42, fun j hj => (hall j hj).1⟩, rfl⟩⟩) hP hD hS dX3_note_55
  exact lp_3 _ 0 _ _ _ (Nat.lt_succ_self _) (by omega) (fun j hj => absurd hj (Nat.not_lt_zero _)) hP hD hS (lv_sub hl [0, 1, 2, 3, 4, 5] rfl)
end
section
abbrev rmX4_inTheWay : Room := { frames := 3, cells := 0, slots := 0, locals := 68 }
set_option maxHeartbeats 4000000 in
set_option maxRecDepth 100000 in
theorem c_X4_inTheWay (l : Launch) (G : va_G) (cB cI cZ : ClassId) (tc : Nat) (a : Nat → Nat) (rn lv lk ss rw sg od aw tb md ql dr : Nat → Int32) (g : Nat) (r : Nat) (n : Nat) (x : Nat) (y : Nat) (k : Nat) (pl : Nat) (hx6 : x < 6) (hy8 : y < 8) (hk9 : k < 9) (hpl : pl ≤ 6) (hI : px_I g n od aw tb md ql dr) : KC l yX4_inTheWay wsX4_inTheWay rmX4_inTheWay G [(cB, .byte), (cI, .int), (cZ, .boolean)] tc [.ref (a 0), .int (nI x), .int (nI y), .int (nI k), .int (nI pl)] (wd a cB cI cZ (nI g) rn lv (nI r) lk ss rw sg (nI n) od aw tb md ql dr) (fun v w' => v = some (.int (px_way n lv od aw tb md dr x y k pl)) ∧ w' = (wd a cB cI cZ (nI g) rn lv (nI r) lk ss rw sg (nI n) od aw tb md ql dr)) := by
  refine KC.of (cc := cX4_inTheWay) (maxL := 7) (ret := some .int) (by decide) rfl (Nat.le_of_ble_eq_true rfl) ?_
  intro p e s m below meth c args A Q ls hx hb hml hown hts hK hZ hA hP hD hS hl hri hrv
  have hown : s.vm.findClass RX4 = some m.cls := hown
  have hl : lv_has ls 7 [(0, .ref (a 0)), (1, .int (nI x)), (2, .int (nI y)), (3, .int (nI k)), (4, .int (nI pl))] := hl
  have fl_19 := hts (.fieldLink RX4 19 "LockDesk" "holdings" "LLockDesk$Holdings;") (by decide +kernel)
  have fl_33 := hts (.fieldLink RX4 33 "LockDesk" "queue" "LLockDesk$Queue;") (by decide +kernel)
  have hin4 : ∀ w ∈ wsX40, w ∈ wsX4_inTheWay := by decide +kernel
  have hI0 := hI
  obtain ⟨hg, hn6, hod, htb, hmd, hdr, hql, hmk⟩ := hI
  refine lv_iconst (v := 0) hx hb dX4_inTheWay_0 (by decide) ?_
  refine lv_istore (lv' := [(5, .int 0), (0, .ref (a 0)), (1, .int (nI x)), (2, .int (nI y)), (3, .int (nI k)), (4, .int (nI pl))]) hx hb dX4_inTheWay_1 hl (by decide) rfl (fun ls hl => ?_)
  refine lv_iconst (v := 0) hx hb dX4_inTheWay_3 (by decide) ?_
  refine lv_istore (lv' := [(6, .int 0), (5, .int 0), (0, .ref (a 0)), (1, .int (nI x)), (2, .int (nI y)), (3, .int (nI k)), (4, .int (nI pl))]) hx hb dX4_inTheWay_4 hl (by decide) rfl (fun ls hl => ?_)
  have lp_6 : ∀ (nf : Nat) (t : Nat) (acc : Int32) (H : Heap) (locs : List Loc) (ls : Array Slot), 6 - t < nf → (t ≤ 6) → (acc = fw_it (px_wayS lv x y k) t 0) → va_P G vwCl (wd a cB cI cZ (nI g) rn lv (nI r) lk ss rw sg (nI n) od aw tb md ql dr) H → va_D A (wd a cB cI cZ (nI g) rn lv (nI r) lk ss rw sg (nI n) od aw tb md ql dr) → va_S A s.heap H locs → lv_has ls 7 [(6, .int (nI t)), (5, .int acc), (0, .ref (a 0)), (1, .int (nI x)), (2, .int (nI y)), (3, .int (nI k)), (4, .int (nI pl))] → W p l e rmX4_inTheWay s m args below meth c H locs 0 0 Q (F0 m 6 ls []) := by
    intro nf
    induction nf with
    | zero => intro t acc H locs ls h0; exact absurd h0 (Nat.not_lt_zero _)
    | succ nf_6 ih_6 =>
      intro t acc H locs ls hn_6 ht hacc hP hD hS hl
      refine lv_iload hx hb dX4_inTheWay_6 (lv_at hl 0 rfl) ?_
      refine lv_bipush (v := 6) hx hb dX4_inTheWay_8 (by decide) ?_
      refine lv_icmp_ge (tgt := 48) hx hb dX4_inTheWay_10 (by decide) (fun c_10 => ?_) (fun c_10 => ?_)
      · have hE : t = 6 := by
          have := fw_nle (a := 6) c_10 (by omega) (by omega)
          omega
        refine lv_iload hx hb dX4_inTheWay_48 (lv_at hl 1 rfl) ?_
        refine lv_aload_n hx hb dX4_inTheWay_50 rfl (lv_at hl 2 rfl) ?_
        refine va_get (D := G) (ci := 4) (v := .ref (a 4)) (C := RX4) (T := TX4) (N := 4) hx hb hts hin4 hown hK hP 0 rfl rfl 3 (by decide) fl_33 (fun _ h9 => h9) rfl dX4_inTheWay_51 ?_
        refine lv_iload_n hx hb dX4_inTheWay_54 rfl (lv_at hl 4 rfl) ?_
        refine lv_iload_n hx hb dX4_inTheWay_55 rfl (lv_at hl 5 rfl) ?_
        refine lv_iload hx hb dX4_inTheWay_56 (lv_at hl 6 rfl) ?_
        refine kV (As := [.int (nI y), .int (nI k), .int (nI pl)]) (rest := [.int acc]) ⟨hx, hb, hml, hown, hts⟩ (c_X2_earlierAgainst l G cB cI cZ tc a (nI g) (nI r) rn lv lk ss rw sg od aw tb md ql dr n (nI y) k pl hn6 hk9 hpl hod) (cwV 3 hts gX4_inTheWay_X2_earlierAgainst rfl rfl rfl (by decide +kernel) ⟨by decide, by decide⟩) hK hZ hA hP hD hS 4 2 rfl rfl rfl hl.1 rfl (Nat.le_of_ble_eq_true rfl) dX4_inTheWay_58 ⟨Nat.zero_le _, Nat.zero_le _⟩ (fun v w' H locs hp hP hD hS => ?_)
        obtain ⟨rfl, rfl⟩ := hp
        have hP : va_P G vwCl (wd a cB cI cZ (nI g) rn lv (nI r) lk ss rw sg (nI n) od aw tb md ql dr) H := hP
        have hD : va_D A (wd a cB cI cZ (nI g) rn lv (nI r) lk ss rw sg (nI n) od aw tb md ql dr) := hD
        refine W.eq (g2 := F0 m 61 ls [.int (px_ea n od aw tb md dr (nI y) k pl), .int acc]) rfl ?_
        refine lv_ior hx hb dX4_inTheWay_61 ?_
        exact hri _ rfl (acc ||| (px_ea n od aw tb md dr (nI y) k pl)) _ _ _ _ _ (rfl) (⟨by rw [hacc, hE]; rfl, rfl⟩) hP hD hS dX4_inTheWay_62
      · have hL : t < 6 := by
          have := fw_nlt (a := 6) c_10 (by omega) (by omega)
          omega
        refine lv_iload hx hb dX4_inTheWay_13 (lv_at hl 0 rfl) ?_
        refine lv_iload_n hx hb dX4_inTheWay_15 rfl (lv_at hl 3 rfl) ?_
        refine lv_icmp_eq (tgt := 42) hx hb dX4_inTheWay_16 (by decide) (fun c_16 => ?_) (fun c_16 => ?_)
        · have c_16 : t = x := (nI_eq (by omega) (by omega)).mp c_16
          refine lv_iinc (v := nI (t + 1)) (lv' := [(6, .int (nI (t + 1))), (5, .int acc), (0, .ref (a 0)), (1, .int (nI x)), (2, .int (nI y)), (3, .int (nI k)), (4, .int (nI pl))]) hx hb dX4_inTheWay_42 hl (k := 0) rfl (fw_inc _) (by decide) rfl (fun ls hl => ?_)
          refine lv_goto (tgt := 6) hx hb dX4_inTheWay_45 (by decide) ?_
          exact ih_6 (t + 1) acc _ _ _ (by omega) (by omega) (by rw [fw_itS, ← hacc]; simp [px_wayS, c_16]) hP hD hS (lv_sub hl [0, 1, 2, 3, 4, 5, 6] rfl)
        · have c_16 : ¬ t = x := fun q => c_16 (by rw [q])
          refine lv_aload_n hx hb dX4_inTheWay_19 rfl (lv_at hl 2 rfl) ?_
          refine va_get (D := G) (ci := 4) (v := .ref (a 2)) (C := RX4) (T := TX4) (N := 4) hx hb hts hin4 hown hK hP 0 rfl rfl 1 (by decide) fl_19 (fun _ h9 => h9) rfl dX4_inTheWay_20 ?_
          refine lv_iload hx hb dX4_inTheWay_23 (lv_at hl 0 rfl) ?_
          refine lv_iload_n hx hb dX4_inTheWay_25 rfl (lv_at hl 4 rfl) ?_
          refine lv_iload_n hx hb dX4_inTheWay_26 rfl (lv_at hl 5 rfl) ?_
          refine kV (As := [.int (nI t), .int (nI y), .int (nI k)]) (rest := []) ⟨hx, hb, hml, hown, hts⟩ (c_X0_standAgainst l G cB cI cZ tc a (nI g) (nI r) (nI n) rn lv lk ss rw sg od aw tb md ql dr t y k hL hy8 hk9) (cwV 3 hts gX4_inTheWay_X0_standAgainst rfl rfl rfl (by decide +kernel) ⟨by decide, by decide⟩) hK hZ hA hP hD hS 2 0 rfl rfl rfl hl.1 rfl (Nat.le_of_ble_eq_true rfl) dX4_inTheWay_27 ⟨Nat.zero_le _, Nat.zero_le _⟩ (fun v w' H locs hp hP hD hS => ?_)
          obtain ⟨rfl, rfl⟩ := hp
          have hP : va_P G vwCl (wd a cB cI cZ (nI g) rn lv (nI r) lk ss rw sg (nI n) od aw tb md ql dr) H := hP
          have hD : va_D A (wd a cB cI cZ (nI g) rn lv (nI r) lk ss rw sg (nI n) od aw tb md ql dr) := hD
          refine W.eq (g2 := F0 m 30 ls [.int (fw_b (px_sa lv t y k))]) rfl ?_
          refine lv_if_eq (tgt := 42) hx hb dX4_inTheWay_30 (by decide) (fun c_30 => ?_) (fun c_30 => ?_)
          · have c_30 := fw_b0.mp c_30
            refine lv_iinc (v := nI (t + 1)) (lv' := [(6, .int (nI (t + 1))), (5, .int acc), (0, .ref (a 0)), (1, .int (nI x)), (2, .int (nI y)), (3, .int (nI k)), (4, .int (nI pl))]) hx hb dX4_inTheWay_42 hl (k := 0) rfl (fw_inc _) (by decide) rfl (fun ls hl => ?_)
            refine lv_goto (tgt := 6) hx hb dX4_inTheWay_45 (by decide) ?_
            exact ih_6 (t + 1) acc _ _ _ (by omega) (by omega) (by rw [fw_itS, ← hacc]; simp [px_wayS, c_16, c_30]) hP hD hS (lv_sub hl [0, 1, 2, 3, 4, 5, 6] rfl)
          · have c_30 := fw_b1.mp c_30
            refine lv_iload hx hb dX4_inTheWay_33 (lv_at hl 1 rfl) ?_
            refine lv_iconst (v := 1) hx hb dX4_inTheWay_35 (by decide) ?_
            refine lv_iload hx hb dX4_inTheWay_36 (lv_at hl 0 rfl) ?_
            refine lv_ishl hx hb dX4_inTheWay_38 ?_
            refine lv_ior hx hb dX4_inTheWay_39 ?_
            refine lv_istore (lv' := [(5, .int (acc ||| (1 <<< ((nI t) &&& 31)))), (6, .int (nI t)), (0, .ref (a 0)), (1, .int (nI x)), (2, .int (nI y)), (3, .int (nI k)), (4, .int (nI pl))]) hx hb dX4_inTheWay_40 hl (by decide) rfl (fun ls hl => ?_)
            refine lv_iinc (v := nI (t + 1)) (lv' := [(6, .int (nI (t + 1))), (5, .int (acc ||| (1 <<< ((nI t) &&& 31)))), (0, .ref (a 0)), (1, .int (nI x)), (2, .int (nI y)), (3, .int (nI k)), (4, .int (nI pl))]) hx hb dX4_inTheWay_42 hl (k := 1) rfl (fw_inc _) (by decide) rfl (fun ls hl => ?_)
            refine lv_goto (tgt := 6) hx hb dX4_inTheWay_45 (by decide) ?_
            exact ih_6 (t + 1) (acc ||| (1 <<< ((nI t) &&& 31))) _ _ _ (by omega) (by omega) (by rw [fw_itS, ← hacc]; simp [px_wayS, c_16, c_30]) hP hD hS (lv_sub hl [0, 1, 2, 3, 4, 5, 6] rfl)
  exact lp_6 _ 0 0 _ _ _ (Nat.lt_succ_self _) (by omega) (rfl) hP hD hS (lv_sub hl [0, 1, 2, 3, 4, 5, 6] rfl)

abbrev rmX4_waitsOn : Room := { frames := 4, cells := 0, slots := 0, locals := 94 }
set_option maxHeartbeats 4000000 in
set_option maxRecDepth 100000 in
theorem c_X4_waitsOn (l : Launch) (G : va_G) (cB cI cZ : ClassId) (tc : Nat) (a : Nat → Nat) (rn lv lk ss rw sg od aw tb md ql dr : Nat → Int32) (g : Nat) (r : Nat) (n : Nat) (x1 : Int32) (hI : px_I g n od aw tb md ql dr) : KC l yX4_waitsOn wsX4_waitsOn rmX4_waitsOn G [(cB, .byte), (cI, .int), (cZ, .boolean)] tc [.ref (a 0), .int x1] (wd a cB cI cZ (nI g) rn lv (nI r) lk ss rw sg (nI n) od aw tb md ql dr) (fun v w' => v = some (.int (px_wo g n rn lv od aw tb md dr x1)) ∧ w' = (wd a cB cI cZ (nI g) rn lv (nI r) lk ss rw sg (nI n) od aw tb md ql dr)) := by
  refine KC.of (cc := cX4_waitsOn) (maxL := 4) (ret := some .int) (by decide) rfl (Nat.le_of_ble_eq_true rfl) ?_
  intro p e s m below meth c args A Q ls hx hb hml hown hts hK hZ hA hP hD hS hl hri hrv
  have hown : s.vm.findClass RX4 = some m.cls := hown
  have hl : lv_has ls 4 [(0, .ref (a 0)), (1, .int x1)] := hl
  have fl_10 := hts (.fieldLink RX4 10 "LockDesk" "numbers" "LLockDesk$Numbers;") (by decide +kernel)
  have fl_33 := hts (.fieldLink RX4 33 "LockDesk" "queue" "LLockDesk$Queue;") (by decide +kernel)
  have hin4 : ∀ w ∈ wsX40, w ∈ wsX4_waitsOn := by decide +kernel
  have hI0 := hI
  obtain ⟨hg, hn6, hod, htb, hmd, hdr, hql, hmk⟩ := hI
  refine lv_aload_n hx hb dX4_waitsOn_0 rfl (lv_at hl 0 rfl) ?_
  refine va_get (D := G) (ci := 4) (v := .ref (a 4)) (C := RX4) (T := TX4) (N := 4) hx hb hts hin4 hown hK hP 0 rfl rfl 3 (by decide) fl_33 (fun _ h9 => h9) rfl dX4_waitsOn_1 ?_
  refine lv_iload_n hx hb dX4_waitsOn_4 rfl (lv_at hl 1 rfl) ?_
  refine kV (As := [.int x1]) (rest := []) ⟨hx, hb, hml, hown, hts⟩ (c_X2_placeOf l G cB cI cZ tc a (nI g) (nI r) rn lv lk ss rw sg od aw tb md ql dr n x1 hn6) (cwV 1 hts gX4_waitsOn_X2_placeOf rfl rfl rfl (by decide +kernel) ⟨by decide, by decide⟩) hK hZ hA hP hD hS 4 2 rfl rfl rfl hl.1 rfl (Nat.le_of_ble_eq_true rfl) dX4_waitsOn_5 ⟨Nat.zero_le _, Nat.zero_le _⟩ (fun v w' H locs hp hP hD hS => ?_)
  obtain ⟨rfl, rfl⟩ := hp
  have hP : va_P G vwCl (wd a cB cI cZ (nI g) rn lv (nI r) lk ss rw sg (nI n) od aw tb md ql dr) H := hP
  have hD : va_D A (wd a cB cI cZ (nI g) rn lv (nI r) lk ss rw sg (nI n) od aw tb md ql dr) := hD
  refine W.eq (g2 := F0 m 8 ls [.int (px_ix (px_pl n od x1))]) rfl ?_
  refine lv_istore_n (lv' := [(2, .int (px_ix (px_pl n od x1))), (0, .ref (a 0)), (1, .int x1)]) hx hb dX4_waitsOn_8 rfl hl (by decide) rfl (fun ls hl => ?_)
  refine lv_iload_n hx hb dX4_waitsOn_9 rfl (lv_at hl 0 rfl) ?_
  refine lv_iconst (v := (-1)) hx hb dX4_waitsOn_10 (by decide) ?_
  refine lv_icmp_ne (tgt := 16) hx hb dX4_waitsOn_11 (by decide) (fun c_11 => ?_) (fun c_11 => ?_)
  · obtain ⟨q, c_11⟩ := px_ix_some c_11
    have c_11 : px_pl n od x1 = some q := c_11
    have hq : q < n := px_fst_lt c_11
    obtain ⟨x, hx6, ex⟩ := hod q hq
    have ex1 : od q = x1 := by simpa using px_fst_sat c_11
    rw [ex] at ex1
    subst ex1
    rw [c_11] at hl
    have hl : lv_has ls 4 [(2, .int (nI q)), (0, .ref (a 0)), (1, .int (nI x))] := hl
    have cl1 : (nI x).toNatClampNeg = x := nI_clamp (by omega)
    refine lv_aload_n hx hb dX4_waitsOn_16 rfl (lv_at hl 1 rfl) ?_
    refine va_get (D := G) (ci := 4) (v := .ref (a 4)) (C := RX4) (T := TX4) (N := 4) hx hb hts hin4 hown hK hP 0 rfl rfl 3 (by decide) fl_33 (fun _ h9 => h9) rfl dX4_waitsOn_17 ?_
    refine lv_iload_n hx hb dX4_waitsOn_20 rfl (lv_at hl 2 rfl) ?_
    refine kV (As := [.int (nI x)]) (rest := []) ⟨hx, hb, hml, hown, hts⟩ (c_X2_isForNumber l G cB cI cZ tc a (nI g) (nI r) (nI n) rn lv lk ss rw sg od aw tb md ql dr x hx6) (cwV 1 hts gX4_waitsOn_X2_isForNumber rfl rfl rfl (by decide +kernel) ⟨by decide, by decide⟩) hK hZ hA hP hD hS 4 2 rfl rfl rfl hl.1 rfl (Nat.le_of_ble_eq_true rfl) dX4_waitsOn_21 ⟨Nat.zero_le _, Nat.zero_le _⟩ (fun v w' H locs hp hP hD hS => ?_)
    obtain ⟨rfl, rfl⟩ := hp
    have hP : va_P G vwCl (wd a cB cI cZ (nI g) rn lv (nI r) lk ss rw sg (nI n) od aw tb md ql dr) H := hP
    have hD : va_D A (wd a cB cI cZ (nI g) rn lv (nI r) lk ss rw sg (nI n) od aw tb md ql dr) := hD
    refine W.eq (g2 := F0 m 24 ls [.int (fw_b (!decide (aw x = 0)))]) rfl ?_
    refine lv_if_eq (tgt := 56) hx hb dX4_waitsOn_24 (by decide) (fun c_24 => ?_) (fun c_24 => ?_)
    · have c_24 := fw_b0.mp c_24
      have c_24 : aw x = 0 := by simpa using c_24
      refine lv_aload_n hx hb dX4_waitsOn_56 rfl (lv_at hl 1 rfl) ?_
      refine va_get (D := G) (ci := 4) (v := .ref (a 4)) (C := RX4) (T := TX4) (N := 4) hx hb hts hin4 hown hK hP 0 rfl rfl 3 (by decide) fl_33 (fun _ h9 => h9) rfl dX4_waitsOn_57 ?_
      refine lv_iload_n hx hb dX4_waitsOn_60 rfl (lv_at hl 2 rfl) ?_
      refine kV (As := [.int (nI x)]) (rest := []) ⟨hx, hb, hml, hown, hts⟩ (c_X2_isDropped l G cB cI cZ tc a (nI g) (nI r) (nI n) rn lv lk ss rw sg od aw tb md ql dr x hx6 (hdr x hx6)) (cwV 1 hts gX4_waitsOn_X2_isDropped rfl rfl rfl (by decide +kernel) ⟨by decide, by decide⟩) hK hZ hA hP hD hS 4 2 rfl rfl rfl hl.1 rfl (Nat.le_of_ble_eq_true rfl) dX4_waitsOn_61 ⟨Nat.zero_le _, Nat.zero_le _⟩ (fun v w' H locs hp hP hD hS => ?_)
      obtain ⟨rfl, rfl⟩ := hp
      have hP : va_P G vwCl (wd a cB cI cZ (nI g) rn lv (nI r) lk ss rw sg (nI n) od aw tb md ql dr) H := hP
      have hD : va_D A (wd a cB cI cZ (nI g) rn lv (nI r) lk ss rw sg (nI n) od aw tb md ql dr) := hD
      refine W.eq (g2 := F0 m 64 ls [.int (dr x)]) rfl ?_
      refine lv_if_eq (tgt := 69) hx hb dX4_waitsOn_64 (by decide) (fun c_64 => ?_) (fun c_64 => ?_)
      · refine lv_aload_n hx hb dX4_waitsOn_69 rfl (lv_at hl 1 rfl) ?_
        refine lv_iload_n hx hb dX4_waitsOn_70 rfl (lv_at hl 2 rfl) ?_
        refine lv_aload_n hx hb dX4_waitsOn_71 rfl (lv_at hl 1 rfl) ?_
        refine va_get (D := G) (ci := 4) (v := .ref (a 4)) (C := RX4) (T := TX4) (N := 4) hx hb hts hin4 hown hK hP 0 rfl rfl 3 (by decide) fl_33 (fun _ h9 => h9) rfl dX4_waitsOn_72 ?_
        refine lv_iload_n hx hb dX4_waitsOn_75 rfl (lv_at hl 2 rfl) ?_
        refine kV (As := [.int (nI x)]) (rest := [.int (nI x), .ref (a 0)]) ⟨hx, hb, hml, hown, hts⟩ (c_X2_tableOf l G cB cI cZ tc a (nI g) (nI r) (nI n) rn lv lk ss rw sg od aw tb md ql dr x hx6) (cwV 1 hts gX4_waitsOn_X2_tableOf rfl rfl rfl (by decide +kernel) ⟨by decide, by decide⟩) hK hZ hA hP hD hS 4 2 rfl rfl rfl hl.1 rfl (Nat.le_of_ble_eq_true rfl) dX4_waitsOn_76 ⟨Nat.zero_le _, Nat.zero_le _⟩ (fun v w' H locs hp hP hD hS => ?_)
        obtain ⟨rfl, rfl⟩ := hp
        have hP : va_P G vwCl (wd a cB cI cZ (nI g) rn lv (nI r) lk ss rw sg (nI n) od aw tb md ql dr) H := hP
        have hD : va_D A (wd a cB cI cZ (nI g) rn lv (nI r) lk ss rw sg (nI n) od aw tb md ql dr) := hD
        refine W.eq (g2 := F0 m 79 ls [.int (tb x), .int (nI x), .ref (a 0)]) rfl ?_
        refine lv_aload_n hx hb dX4_waitsOn_79 rfl (lv_at hl 1 rfl) ?_
        refine va_get (D := G) (ci := 4) (v := .ref (a 4)) (C := RX4) (T := TX4) (N := 4) hx hb hts hin4 hown hK hP 0 rfl rfl 3 (by decide) fl_33 (fun _ h9 => h9) rfl dX4_waitsOn_80 ?_
        refine lv_iload_n hx hb dX4_waitsOn_83 rfl (lv_at hl 2 rfl) ?_
        refine kV (As := [.int (nI x)]) (rest := [.int (tb x), .int (nI x), .ref (a 0)]) ⟨hx, hb, hml, hown, hts⟩ (c_X2_modeOf l G cB cI cZ tc a (nI g) (nI r) (nI n) rn lv lk ss rw sg od aw tb md ql dr x hx6) (cwV 1 hts gX4_waitsOn_X2_modeOf rfl rfl rfl (by decide +kernel) ⟨by decide, by decide⟩) hK hZ hA hP hD hS 4 2 rfl rfl rfl hl.1 rfl (Nat.le_of_ble_eq_true rfl) dX4_waitsOn_84 ⟨Nat.zero_le _, Nat.zero_le _⟩ (fun v w' H locs hp hP hD hS => ?_)
        obtain ⟨rfl, rfl⟩ := hp
        have hP : va_P G vwCl (wd a cB cI cZ (nI g) rn lv (nI r) lk ss rw sg (nI n) od aw tb md ql dr) H := hP
        have hD : va_D A (wd a cB cI cZ (nI g) rn lv (nI r) lk ss rw sg (nI n) od aw tb md ql dr) := hD
        refine W.eq (g2 := F0 m 87 ls [.int (md x), .int (tb x), .int (nI x), .ref (a 0)]) rfl ?_
        obtain ⟨y, hy8, ey⟩ := htb x hx6
        obtain ⟨k, hk9, ek⟩ := hmd x hx6
        rw [ey, ek]
        refine lv_iload_n hx hb dX4_waitsOn_87 rfl (lv_at hl 0 rfl) ?_
        refine kV (As := [.int (nI x), .int (nI y), .int (nI k), .int (nI q)]) (rest := []) ⟨hx, hb, hml, hown, hts⟩ (c_X4_inTheWay l G cB cI cZ tc a rn lv lk ss rw sg od aw tb md ql dr g r n x y k q hx6 hy8 hk9 (by omega) hI0) (cwV 4 hts gX4_waitsOn_X4_inTheWay rfl rfl rfl (by decide +kernel) ⟨by decide, by decide⟩) hK hZ hA hP hD hS 0 4 rfl rfl rfl hl.1 rfl (Nat.le_of_ble_eq_true rfl) dX4_waitsOn_88 ⟨Nat.zero_le _, Nat.zero_le _⟩ (fun v w' H locs hp hP hD hS => ?_)
        obtain ⟨rfl, rfl⟩ := hp
        have hP : va_P G vwCl (wd a cB cI cZ (nI g) rn lv (nI r) lk ss rw sg (nI n) od aw tb md ql dr) H := hP
        have hD : va_D A (wd a cB cI cZ (nI g) rn lv (nI r) lk ss rw sg (nI n) od aw tb md ql dr) := hD
        refine W.eq (g2 := F0 m 91 ls [.int (px_way n lv od aw tb md dr x y k q)]) rfl ?_
        exact hri _ rfl (px_way n lv od aw tb md dr x y k q) _ _ _ _ _ (rfl) (⟨by simp only [px_wo, c_11, cl1, if_pos c_24, if_pos c_64, ey, ek, nI_clamp (show y < 2 ^ 31 by omega), nI_clamp (show k < 2 ^ 31 by omega)], rfl⟩) hP hD hS dX4_waitsOn_91
      · refine lv_iconst (v := 0) hx hb dX4_waitsOn_67 (by decide) ?_
        exact hri _ rfl 0 _ _ _ _ _ (rfl) (⟨by simp only [px_wo, c_11, cl1, if_pos c_24, if_neg c_64], rfl⟩) hP hD hS dX4_waitsOn_68
    · have c_24 := fw_b1.mp c_24
      have c_24 : ¬ aw x = 0 := by simpa using c_24
      refine lv_aload_n hx hb dX4_waitsOn_27 rfl (lv_at hl 1 rfl) ?_
      refine va_get (D := G) (ci := 4) (v := .ref (a 1)) (C := RX4) (T := TX4) (N := 4) hx hb hts hin4 hown hK hP 0 rfl rfl 0 (by decide) fl_10 (fun _ h9 => h9) rfl dX4_waitsOn_28 ?_
      refine lv_aload_n hx hb dX4_waitsOn_31 rfl (lv_at hl 1 rfl) ?_
      refine va_get (D := G) (ci := 4) (v := .ref (a 4)) (C := RX4) (T := TX4) (N := 4) hx hb hts hin4 hown hK hP 0 rfl rfl 3 (by decide) fl_33 (fun _ h9 => h9) rfl dX4_waitsOn_32 ?_
      refine lv_iload_n hx hb dX4_waitsOn_35 rfl (lv_at hl 2 rfl) ?_
      refine kV (As := [.int (nI x)]) (rest := [.ref (a 1)]) ⟨hx, hb, hml, hown, hts⟩ (c_X2_numberOf l G cB cI cZ tc a (nI g) (nI r) (nI n) rn lv lk ss rw sg od aw tb md ql dr x hx6) (cwV 1 hts gX4_waitsOn_X2_numberOf rfl rfl rfl (by decide +kernel) ⟨by decide, by decide⟩) hK hZ hA hP hD hS 4 2 rfl rfl rfl hl.1 rfl (Nat.le_of_ble_eq_true rfl) dX4_waitsOn_36 ⟨Nat.zero_le _, Nat.zero_le _⟩ (fun v w' H locs hp hP hD hS => ?_)
      obtain ⟨rfl, rfl⟩ := hp
      have hP : va_P G vwCl (wd a cB cI cZ (nI g) rn lv (nI r) lk ss rw sg (nI n) od aw tb md ql dr) H := hP
      have hD : va_D A (wd a cB cI cZ (nI g) rn lv (nI r) lk ss rw sg (nI n) od aw tb md ql dr) := hD
      refine W.eq (g2 := F0 m 39 ls [.int (aw x), .ref (a 1)]) rfl ?_
      refine kV (As := [.int (aw x)]) (rest := []) ⟨hx, hb, hml, hown, hts⟩ (c_X1_runnerOf l G cB cI cZ tc a (nI r) (nI n) rn lv lk ss rw sg od aw tb md ql dr g (aw x) hg) (cwV 1 hts gX4_waitsOn_X1_runnerOf rfl rfl rfl (by decide +kernel) ⟨by decide, by decide⟩) hK hZ hA hP hD hS 1 1 rfl rfl rfl hl.1 rfl (Nat.le_of_ble_eq_true rfl) dX4_waitsOn_39 ⟨Nat.zero_le _, Nat.zero_le _⟩ (fun v w' H locs hp hP hD hS => ?_)
      obtain ⟨rfl, rfl⟩ := hp
      have hP : va_P G vwCl (wd a cB cI cZ (nI g) rn lv (nI r) lk ss rw sg (nI n) od aw tb md ql dr) H := hP
      have hD : va_D A (wd a cB cI cZ (nI g) rn lv (nI r) lk ss rw sg (nI n) od aw tb md ql dr) := hD
      refine W.eq (g2 := F0 m 42 ls [.int (px_run g rn (aw x))]) rfl ?_
      refine lv_istore_n (lv' := [(3, .int (px_run g rn (aw x))), (2, .int (nI q)), (0, .ref (a 0)), (1, .int (nI x))]) hx hb dX4_waitsOn_42 rfl hl (by decide) rfl (fun ls hl => ?_)
      refine lv_iload_n hx hb dX4_waitsOn_43 rfl (lv_at hl 0 rfl) ?_
      refine lv_iconst (v := (-1)) hx hb dX4_waitsOn_44 (by decide) ?_
      refine lv_icmp_ne (tgt := 52) hx hb dX4_waitsOn_45 (by decide) (fun c_45 => ?_) (fun c_45 => ?_)
      · refine lv_iconst (v := 1) hx hb dX4_waitsOn_52 (by decide) ?_
        refine lv_iload_n hx hb dX4_waitsOn_53 rfl (lv_at hl 0 rfl) ?_
        refine lv_ishl hx hb dX4_waitsOn_54 ?_
        exact hri _ rfl (1 <<< ((px_run g rn (aw x)) &&& 31)) _ _ _ _ _ (rfl) (⟨by simp only [px_wo, c_11, cl1, if_neg c_24, if_neg c_45], rfl⟩) hP hD hS dX4_waitsOn_55
      · refine lv_iconst (v := 0) hx hb dX4_waitsOn_48 (by decide) ?_
        refine lv_goto (tgt := 55) hx hb dX4_waitsOn_49 (by decide) ?_
        exact hri _ rfl 0 _ _ _ _ _ (rfl) (⟨by simp only [px_wo, c_11, cl1, if_neg c_24, if_pos c_45], rfl⟩) hP hD hS dX4_waitsOn_55
  · have c_11 : px_pl n od x1 = none := px_ix_none hn6 c_11
    refine lv_iconst (v := 0) hx hb dX4_waitsOn_14 (by decide) ?_
    exact hri _ rfl 0 _ _ _ _ _ (rfl) (⟨by rw [px_wo, c_11], rfl⟩) hP hD hS dX4_waitsOn_15

abbrev rmX4_closesRing : Room := { frames := 5, cells := 0, slots := 0, locals := 117 }
set_option maxHeartbeats 4000000 in
set_option maxRecDepth 100000 in
theorem c_X4_closesRing (l : Launch) (G : va_G) (cB cI cZ : ClassId) (tc : Nat) (a : Nat → Nat) (rn lv lk ss rw sg od aw tb md ql dr : Nat → Int32) (g : Nat) (r : Nat) (n : Nat) (x1 : Int32) (x2 : Int32) (hI : px_I g n od aw tb md ql dr) : KC l yX4_closesRing wsX4_closesRing rmX4_closesRing G [(cB, .byte), (cI, .int), (cZ, .boolean)] tc [.ref (a 0), .int x1, .int x2] (wd a cB cI cZ (nI g) rn lv (nI r) lk ss rw sg (nI n) od aw tb md ql dr) (fun v w' => v = some (.int (fw_b (px_cr (px_wo g n rn lv od aw tb md dr) x1 x2))) ∧ w' = (wd a cB cI cZ (nI g) rn lv (nI r) lk ss rw sg (nI n) od aw tb md ql dr)) := by
  refine KC.of (cc := cX4_closesRing) (maxL := 6) (ret := some .boolean) (by decide) rfl (Nat.le_of_ble_eq_true rfl) ?_
  intro p e s m below meth c args A Q ls hx hb hml hown hts hK hZ hA hP hD hS hl hri hrv
  have hown : s.vm.findClass RX4 = some m.cls := hown
  have hl : lv_has ls 6 [(0, .ref (a 0)), (1, .int x1), (2, .int x2)] := hl
  have hI0 := hI
  obtain ⟨hg, hn6, hod, htb, hmd, hdr, hql, hmk⟩ := hI
  refine lv_iload_n hx hb dX4_closesRing_0 rfl (lv_at hl 2 rfl) ?_
  refine lv_istore_n (lv' := [(3, .int x2), (0, .ref (a 0)), (1, .int x1), (2, .int x2)]) hx hb dX4_closesRing_1 rfl hl (by decide) rfl (fun ls hl => ?_)
  refine lv_iconst (v := 0) hx hb dX4_closesRing_2 (by decide) ?_
  refine lv_istore (lv' := [(4, .int 0), (3, .int x2), (0, .ref (a 0)), (1, .int x1), (2, .int x2)]) hx hb dX4_closesRing_3 hl (by decide) rfl (fun ls hl => ?_)
  have lp_5 : ∀ (nf : Nat) (u : Nat) (rr : Int32) (H : Heap) (locs : List Loc) (ls : Array Slot), 6 - u < nf → (u ≤ 6) → (rr = fw_it (px_crO (px_wo g n rn lv od aw tb md dr)) u x2) → va_P G vwCl (wd a cB cI cZ (nI g) rn lv (nI r) lk ss rw sg (nI n) od aw tb md ql dr) H → va_D A (wd a cB cI cZ (nI g) rn lv (nI r) lk ss rw sg (nI n) od aw tb md ql dr) → va_S A s.heap H locs → lv_has ls 6 [(4, .int (nI u)), (3, .int rr), (0, .ref (a 0)), (1, .int x1), (2, .int x2)] → W p l e rmX4_closesRing s m args below meth c H locs 0 0 Q (F0 m 5 ls []) := by
    intro nf
    induction nf with
    | zero => intro u rr H locs ls h0; exact absurd h0 (Nat.not_lt_zero _)
    | succ nf_5 ih_5 =>
      intro u rr H locs ls hn_5 hu hrr hP hD hS hl
      refine lv_iload hx hb dX4_closesRing_5 (lv_at hl 0 rfl) ?_
      refine lv_bipush (v := 6) hx hb dX4_closesRing_7 (by decide) ?_
      refine lv_icmp_ge (tgt := 52) hx hb dX4_closesRing_9 (by decide) (fun c_9 => ?_) (fun c_9 => ?_)
      · have hE : u = 6 := by
          have := fw_nle (a := 6) c_9 (by omega) (by omega)
          omega
        refine lv_iload_n hx hb dX4_closesRing_52 rfl (lv_at hl 1 rfl) ?_
        refine lv_iload_n hx hb dX4_closesRing_53 rfl (lv_at hl 3 rfl) ?_
        refine kS (As := [.int rr, .int x1]) (rest := []) ⟨hx, hb, hml, hown, hts⟩ (c_X4_has l G [(cB, .byte), (cI, .int), (cZ, .boolean)] tc (wd a cB cI cZ (nI g) rn lv (nI r) lk ss rw sg (nI n) od aw tb md ql dr) rr x1) (va_cwS 2 hts gX4_closesRing_X4_has rfl rfl rfl (by decide +kernel) ⟨by decide, by decide⟩) hK hZ hA hP hD hS rfl hl.1 rfl (Nat.le_of_ble_eq_true rfl) dX4_closesRing_54 ⟨Nat.zero_le _, Nat.zero_le _⟩ (fun v w' H locs hp hP hD hS => ?_)
        obtain ⟨rfl, rfl⟩ := hp
        have hP : va_P G vwCl (wd a cB cI cZ (nI g) rn lv (nI r) lk ss rw sg (nI n) od aw tb md ql dr) H := hP
        have hD : va_D A (wd a cB cI cZ (nI g) rn lv (nI r) lk ss rw sg (nI n) od aw tb md ql dr) := hD
        refine W.eq (g2 := F0 m 57 ls [.int (fw_b (px_has rr x1))]) rfl ?_
        exact hri _ rfl (fw_b (px_has rr x1)) _ _ _ _ _ (fw_bn _) (⟨by rw [px_cr, ← hE, ← hrr], rfl⟩) hP hD hS dX4_closesRing_57
      · have hL : u < 6 := by
          have := fw_nlt (a := 6) c_9 (by omega) (by omega)
          omega
        refine lv_iconst (v := 0) hx hb dX4_closesRing_12 (by decide) ?_
        refine lv_istore (lv' := [(5, .int 0), (4, .int (nI u)), (3, .int rr), (0, .ref (a 0)), (1, .int x1), (2, .int x2)]) hx hb dX4_closesRing_13 hl (by decide) rfl (fun ls hl => ?_)
        have lp_15 : ∀ (nf : Nat) (t : Nat) (r2 : Int32) (H : Heap) (locs : List Loc) (ls : Array Slot), 6 - t < nf → (t ≤ 6) → (r2 = fw_it (px_crS (px_wo g n rn lv od aw tb md dr)) t rr) → va_P G vwCl (wd a cB cI cZ (nI g) rn lv (nI r) lk ss rw sg (nI n) od aw tb md ql dr) H → va_D A (wd a cB cI cZ (nI g) rn lv (nI r) lk ss rw sg (nI n) od aw tb md ql dr) → va_S A s.heap H locs → lv_has ls 6 [(5, .int (nI t)), (4, .int (nI u)), (3, .int r2), (0, .ref (a 0)), (1, .int x1), (2, .int x2)] → W p l e rmX4_closesRing s m args below meth c H locs 0 0 Q (F0 m 15 ls []) := by
          intro nf
          induction nf with
          | zero => intro t r2 H locs ls h0; exact absurd h0 (Nat.not_lt_zero _)
          | succ nf_15 ih_15 =>
            intro t r2 H locs ls hn_15 ht hr2 hP hD hS hl
            refine lv_iload hx hb dX4_closesRing_15 (lv_at hl 0 rfl) ?_
            refine lv_bipush (v := 6) hx hb dX4_closesRing_17 (by decide) ?_
            refine lv_icmp_ge (tgt := 46) hx hb dX4_closesRing_19 (by decide) (fun c_19 => ?_) (fun c_19 => ?_)
            · have hE2 : t = 6 := by
                have := fw_nle (a := 6) c_19 (by omega) (by omega)
                omega
              refine lv_iinc (v := nI (u + 1)) (lv' := [(4, .int (nI (u + 1))), (5, .int (nI t)), (3, .int r2), (0, .ref (a 0)), (1, .int x1), (2, .int x2)]) hx hb dX4_closesRing_46 hl (k := 1) rfl (fw_inc _) (by decide) rfl (fun ls hl => ?_)
              refine lv_goto (tgt := 5) hx hb dX4_closesRing_49 (by decide) ?_
              exact ih_5 (u + 1) r2 _ _ _ (by omega) (by omega) (by rw [fw_itS, ← hrr, hr2, hE2]; rfl) hP hD hS (lv_sub hl [0, 2, 3, 4, 5] rfl)
            · have hL2 : t < 6 := by
                have := fw_nlt (a := 6) c_19 (by omega) (by omega)
                omega
              refine lv_iload_n hx hb dX4_closesRing_22 rfl (lv_at hl 2 rfl) ?_
              refine lv_iload hx hb dX4_closesRing_23 (lv_at hl 0 rfl) ?_
              refine kS (As := [.int r2, .int (nI t)]) (rest := []) ⟨hx, hb, hml, hown, hts⟩ (c_X4_has l G [(cB, .byte), (cI, .int), (cZ, .boolean)] tc (wd a cB cI cZ (nI g) rn lv (nI r) lk ss rw sg (nI n) od aw tb md ql dr) r2 (nI t)) (va_cwS 2 hts gX4_closesRing_X4_has rfl rfl rfl (by decide +kernel) ⟨by decide, by decide⟩) hK hZ hA hP hD hS rfl hl.1 rfl (Nat.le_of_ble_eq_true rfl) dX4_closesRing_25 ⟨Nat.zero_le _, Nat.zero_le _⟩ (fun v w' H locs hp hP hD hS => ?_)
              obtain ⟨rfl, rfl⟩ := hp
              have hP : va_P G vwCl (wd a cB cI cZ (nI g) rn lv (nI r) lk ss rw sg (nI n) od aw tb md ql dr) H := hP
              have hD : va_D A (wd a cB cI cZ (nI g) rn lv (nI r) lk ss rw sg (nI n) od aw tb md ql dr) := hD
              refine W.eq (g2 := F0 m 28 ls [.int (fw_b (px_has r2 (nI t)))]) rfl ?_
              refine lv_if_eq (tgt := 40) hx hb dX4_closesRing_28 (by decide) (fun c_28 => ?_) (fun c_28 => ?_)
              · have c_28 := fw_b0.mp c_28
                refine lv_iinc (v := nI (t + 1)) (lv' := [(5, .int (nI (t + 1))), (4, .int (nI u)), (3, .int r2), (0, .ref (a 0)), (1, .int x1), (2, .int x2)]) hx hb dX4_closesRing_40 hl (k := 0) rfl (fw_inc _) (by decide) rfl (fun ls hl => ?_)
                refine lv_goto (tgt := 15) hx hb dX4_closesRing_43 (by decide) ?_
                exact ih_15 (t + 1) r2 _ _ _ (by omega) (by omega) (by rw [fw_itS, ← hr2]; simp [px_crS, c_28]) hP hD hS (lv_sub hl [0, 1, 2, 3, 4, 5] rfl)
              · have c_28 := fw_b1.mp c_28
                refine lv_iload_n hx hb dX4_closesRing_31 rfl (lv_at hl 2 rfl) ?_
                refine lv_aload_n hx hb dX4_closesRing_32 rfl (lv_at hl 3 rfl) ?_
                refine lv_iload hx hb dX4_closesRing_33 (lv_at hl 0 rfl) ?_
                refine kV (As := [.int (nI t)]) (rest := [.int r2]) ⟨hx, hb, hml, hown, hts⟩ (c_X4_waitsOn l G cB cI cZ tc a rn lv lk ss rw sg od aw tb md ql dr g r n (nI t) hI0) (cwV 1 hts gX4_closesRing_X4_waitsOn rfl rfl rfl (by decide +kernel) ⟨by decide, by decide⟩) hK hZ hA hP hD hS 0 4 rfl rfl rfl hl.1 rfl (Nat.le_of_ble_eq_true rfl) dX4_closesRing_35 ⟨Nat.zero_le _, Nat.zero_le _⟩ (fun v w' H locs hp hP hD hS => ?_)
                obtain ⟨rfl, rfl⟩ := hp
                have hP : va_P G vwCl (wd a cB cI cZ (nI g) rn lv (nI r) lk ss rw sg (nI n) od aw tb md ql dr) H := hP
                have hD : va_D A (wd a cB cI cZ (nI g) rn lv (nI r) lk ss rw sg (nI n) od aw tb md ql dr) := hD
                refine W.eq (g2 := F0 m 38 ls [.int (px_wo g n rn lv od aw tb md dr (nI t)), .int r2]) rfl ?_
                refine lv_ior hx hb dX4_closesRing_38 ?_
                refine lv_istore_n (lv' := [(3, .int (r2 ||| (px_wo g n rn lv od aw tb md dr (nI t)))), (5, .int (nI t)), (4, .int (nI u)), (0, .ref (a 0)), (1, .int x1), (2, .int x2)]) hx hb dX4_closesRing_39 rfl hl (by decide) rfl (fun ls hl => ?_)
                refine lv_iinc (v := nI (t + 1)) (lv' := [(5, .int (nI (t + 1))), (3, .int (r2 ||| (px_wo g n rn lv od aw tb md dr (nI t)))), (4, .int (nI u)), (0, .ref (a 0)), (1, .int x1), (2, .int x2)]) hx hb dX4_closesRing_40 hl (k := 1) rfl (fw_inc _) (by decide) rfl (fun ls hl => ?_)
                refine lv_goto (tgt := 15) hx hb dX4_closesRing_43 (by decide) ?_
                exact ih_15 (t + 1) (r2 ||| (px_wo g n rn lv od aw tb md dr (nI t))) _ _ _ (by omega) (by omega) (by rw [fw_itS, ← hr2]; simp [px_crS, c_28]) hP hD hS (lv_sub hl [0, 2, 1, 3, 4, 5] rfl)
        exact lp_15 _ 0 rr _ _ _ (Nat.lt_succ_self _) (by omega) (rfl) hP hD hS (lv_sub hl [0, 1, 2, 3, 4, 5] rfl)
  exact lp_5 _ 0 x2 _ _ _ (Nat.lt_succ_self _) (by omega) (rfl) hP hD hS (lv_sub hl [0, 1, 2, 3, 4] rfl)

abbrev rmX4_wake : Room := { frames := 2, cells := 0, slots := 0, locals := 46 }
set_option maxHeartbeats 4000000 in
set_option maxRecDepth 100000 in
theorem c_X4_wake (l : Launch) (G : va_G) (cB cI cZ : ClassId) (tc : Nat) (a : Nat → Nat) (rn lv lk ss rw sg od aw tb md ql dr : Nat → Int32) (g : Nat) (r : Nat) (n : Nat) (x : Nat) (hx6 : x < 6) (hmm : aw x = 0 → ∃ k : Nat, k < 8 ∧ md x = nI (k + 1)) (hI : px_I g n od aw tb md ql dr) : KC l yX4_wake wsX4_wake rmX4_wake G [(cB, .byte), (cI, .int), (cZ, .boolean)] tc [.ref (a 0), .int (nI x)] (wd a cB cI cZ (nI g) rn lv (nI r) lk ss rw sg (nI n) od aw tb md ql dr) (fun v w' => if aw x = 0 then (if dr x = 0 then ∃ y k z : Nat, y < 8 ∧ k < 8 ∧ z < 8 ∧ tb x = nI y ∧ md x = nI (k + 1) ∧ ql x = nI z ∧ v = some (.int (nI x)) ∧ w' = (wd a cB cI cZ (nI g) rn (upd lv (64 * x + 8 * y + k) (nI z)) (nI r) lk ss rw sg (nI (px_rm n od (nI x)).1) ((px_rm n od (nI x)).2) aw tb md ql dr) else v = some (.int (nI x + 8)) ∧ w' = (wd a cB cI cZ (nI g) rn lv (nI r) lk ss rw sg (nI (px_rm n od (nI x)).1) ((px_rm n od (nI x)).2) aw tb md ql dr)) else v = some (.int (nI x)) ∧ w' = (wd a cB cI cZ (nI g) rn lv (nI r) lk ss rw sg (nI (px_rm n od (nI x)).1) ((px_rm n od (nI x)).2) aw tb md ql dr)) := by
  refine KC.of (cc := cX4_wake) (maxL := 2) (ret := some .int) (by decide) rfl (Nat.le_of_ble_eq_true rfl) ?_
  intro p e s m below meth c args A Q ls hx hb hml hown hts hK hZ hA hP hD hS hl hri hrv
  have hown : s.vm.findClass RX4 = some m.cls := hown
  have hl : lv_has ls 2 [(0, .ref (a 0)), (1, .int (nI x))] := hl
  have fl_19 := hts (.fieldLink RX4 19 "LockDesk" "holdings" "LLockDesk$Holdings;") (by decide +kernel)
  have fl_33 := hts (.fieldLink RX4 33 "LockDesk" "queue" "LLockDesk$Queue;") (by decide +kernel)
  have hin4 : ∀ w ∈ wsX40, w ∈ wsX4_wake := by decide +kernel
  have hI0 := hI
  obtain ⟨hg, hn6, hod, htb, hmd, hdr, hql, hmk⟩ := hI
  refine lv_aload_n hx hb dX4_wake_0 rfl (lv_at hl 0 rfl) ?_
  refine va_get (D := G) (ci := 4) (v := .ref (a 4)) (C := RX4) (T := TX4) (N := 4) hx hb hts hin4 hown hK hP 0 rfl rfl 3 (by decide) fl_33 (fun _ h9 => h9) rfl dX4_wake_1 ?_
  refine lv_iload_n hx hb dX4_wake_4 rfl (lv_at hl 1 rfl) ?_
  refine kV (As := [.int (nI x)]) (rest := []) ⟨hx, hb, hml, hown, hts⟩ (c_X2_remove l G cB cI cZ tc a (nI g) (nI r) rn lv lk ss rw sg od aw tb md ql dr n (nI x) hn6) (cwV 1 hts gX4_wake_X2_remove rfl rfl rfl (by decide +kernel) ⟨by decide, by decide⟩) hK hZ hA hP hD hS 4 2 rfl rfl rfl hl.1 rfl (Nat.le_of_ble_eq_true rfl) dX4_wake_5 ⟨Nat.zero_le _, Nat.zero_le _⟩ (fun v w' H locs hp hP hD hS => ?_)
  obtain ⟨rfl, rfl⟩ := hp
  have hP : va_P G vwCl (wd a cB cI cZ (nI g) rn lv (nI r) lk ss rw sg (nI (px_rm n od (nI x)).1) ((px_rm n od (nI x)).2) aw tb md ql dr) H := hP
  have hD : va_D A (wd a cB cI cZ (nI g) rn lv (nI r) lk ss rw sg (nI (px_rm n od (nI x)).1) ((px_rm n od (nI x)).2) aw tb md ql dr) := hD
  refine W.eq (g2 := F0 m 8 ls []) rfl ?_
  refine lv_aload_n hx hb dX4_wake_8 rfl (lv_at hl 0 rfl) ?_
  refine va_get (D := G) (ci := 4) (v := .ref (a 4)) (C := RX4) (T := TX4) (N := 4) hx hb hts hin4 hown hK hP 0 rfl rfl 3 (by decide) fl_33 (fun _ h9 => h9) rfl dX4_wake_9 ?_
  refine lv_iload_n hx hb dX4_wake_12 rfl (lv_at hl 1 rfl) ?_
  refine kV (As := [.int (nI x)]) (rest := []) ⟨hx, hb, hml, hown, hts⟩ (c_X2_isForNumber l G cB cI cZ tc a (nI g) (nI r) (nI (px_rm n od (nI x)).1) rn lv lk ss rw sg ((px_rm n od (nI x)).2) aw tb md ql dr x hx6) (cwV 1 hts gX4_wake_X2_isForNumber rfl rfl rfl (by decide +kernel) ⟨by decide, by decide⟩) hK hZ hA hP hD hS 4 2 rfl rfl rfl hl.1 rfl (Nat.le_of_ble_eq_true rfl) dX4_wake_13 ⟨Nat.zero_le _, Nat.zero_le _⟩ (fun v w' H locs hp hP hD hS => ?_)
  obtain ⟨rfl, rfl⟩ := hp
  have hP : va_P G vwCl (wd a cB cI cZ (nI g) rn lv (nI r) lk ss rw sg (nI (px_rm n od (nI x)).1) ((px_rm n od (nI x)).2) aw tb md ql dr) H := hP
  have hD : va_D A (wd a cB cI cZ (nI g) rn lv (nI r) lk ss rw sg (nI (px_rm n od (nI x)).1) ((px_rm n od (nI x)).2) aw tb md ql dr) := hD
  refine W.eq (g2 := F0 m 16 ls [.int (fw_b (!decide (aw x = 0)))]) rfl ?_
  refine lv_if_eq (tgt := 21) hx hb dX4_wake_16 (by decide) (fun c_16 => ?_) (fun c_16 => ?_)
  · have c_16 := fw_b0.mp c_16
    have c_16 : aw x = 0 := by simpa using c_16
    refine lv_aload_n hx hb dX4_wake_21 rfl (lv_at hl 0 rfl) ?_
    refine va_get (D := G) (ci := 4) (v := .ref (a 4)) (C := RX4) (T := TX4) (N := 4) hx hb hts hin4 hown hK hP 0 rfl rfl 3 (by decide) fl_33 (fun _ h9 => h9) rfl dX4_wake_22 ?_
    refine lv_iload_n hx hb dX4_wake_25 rfl (lv_at hl 1 rfl) ?_
    refine kV (As := [.int (nI x)]) (rest := []) ⟨hx, hb, hml, hown, hts⟩ (c_X2_isDropped l G cB cI cZ tc a (nI g) (nI r) (nI (px_rm n od (nI x)).1) rn lv lk ss rw sg ((px_rm n od (nI x)).2) aw tb md ql dr x hx6 (hdr x hx6)) (cwV 1 hts gX4_wake_X2_isDropped rfl rfl rfl (by decide +kernel) ⟨by decide, by decide⟩) hK hZ hA hP hD hS 4 2 rfl rfl rfl hl.1 rfl (Nat.le_of_ble_eq_true rfl) dX4_wake_26 ⟨Nat.zero_le _, Nat.zero_le _⟩ (fun v w' H locs hp hP hD hS => ?_)
    obtain ⟨rfl, rfl⟩ := hp
    have hP : va_P G vwCl (wd a cB cI cZ (nI g) rn lv (nI r) lk ss rw sg (nI (px_rm n od (nI x)).1) ((px_rm n od (nI x)).2) aw tb md ql dr) H := hP
    have hD : va_D A (wd a cB cI cZ (nI g) rn lv (nI r) lk ss rw sg (nI (px_rm n od (nI x)).1) ((px_rm n od (nI x)).2) aw tb md ql dr) := hD
    refine W.eq (g2 := F0 m 29 ls [.int (dr x)]) rfl ?_
    refine lv_if_eq (tgt := 37) hx hb dX4_wake_29 (by decide) (fun c_29 => ?_) (fun c_29 => ?_)
    · refine lv_aload_n hx hb dX4_wake_37 rfl (lv_at hl 0 rfl) ?_
      refine va_get (D := G) (ci := 4) (v := .ref (a 2)) (C := RX4) (T := TX4) (N := 4) hx hb hts hin4 hown hK hP 0 rfl rfl 1 (by decide) fl_19 (fun _ h9 => h9) rfl dX4_wake_38 ?_
      refine lv_iload_n hx hb dX4_wake_41 rfl (lv_at hl 1 rfl) ?_
      refine lv_aload_n hx hb dX4_wake_42 rfl (lv_at hl 0 rfl) ?_
      refine va_get (D := G) (ci := 4) (v := .ref (a 4)) (C := RX4) (T := TX4) (N := 4) hx hb hts hin4 hown hK hP 0 rfl rfl 3 (by decide) fl_33 (fun _ h9 => h9) rfl dX4_wake_43 ?_
      refine lv_iload_n hx hb dX4_wake_46 rfl (lv_at hl 1 rfl) ?_
      refine kV (As := [.int (nI x)]) (rest := [.int (nI x), .ref (a 2)]) ⟨hx, hb, hml, hown, hts⟩ (c_X2_levelOf l G cB cI cZ tc a (nI g) (nI r) (nI (px_rm n od (nI x)).1) rn lv lk ss rw sg ((px_rm n od (nI x)).2) aw tb md ql dr x hx6) (cwV 1 hts gX4_wake_X2_levelOf rfl rfl rfl (by decide +kernel) ⟨by decide, by decide⟩) hK hZ hA hP hD hS 4 2 rfl rfl rfl hl.1 rfl (Nat.le_of_ble_eq_true rfl) dX4_wake_47 ⟨Nat.zero_le _, Nat.zero_le _⟩ (fun v w' H locs hp hP hD hS => ?_)
      obtain ⟨rfl, rfl⟩ := hp
      have hP : va_P G vwCl (wd a cB cI cZ (nI g) rn lv (nI r) lk ss rw sg (nI (px_rm n od (nI x)).1) ((px_rm n od (nI x)).2) aw tb md ql dr) H := hP
      have hD : va_D A (wd a cB cI cZ (nI g) rn lv (nI r) lk ss rw sg (nI (px_rm n od (nI x)).1) ((px_rm n od (nI x)).2) aw tb md ql dr) := hD
      refine W.eq (g2 := F0 m 50 ls [.int (ql x), .int (nI x), .ref (a 2)]) rfl ?_
      refine lv_aload_n hx hb dX4_wake_50 rfl (lv_at hl 0 rfl) ?_
      refine va_get (D := G) (ci := 4) (v := .ref (a 4)) (C := RX4) (T := TX4) (N := 4) hx hb hts hin4 hown hK hP 0 rfl rfl 3 (by decide) fl_33 (fun _ h9 => h9) rfl dX4_wake_51 ?_
      refine lv_iload_n hx hb dX4_wake_54 rfl (lv_at hl 1 rfl) ?_
      refine kV (As := [.int (nI x)]) (rest := [.int (ql x), .int (nI x), .ref (a 2)]) ⟨hx, hb, hml, hown, hts⟩ (c_X2_tableOf l G cB cI cZ tc a (nI g) (nI r) (nI (px_rm n od (nI x)).1) rn lv lk ss rw sg ((px_rm n od (nI x)).2) aw tb md ql dr x hx6) (cwV 1 hts gX4_wake_X2_tableOf rfl rfl rfl (by decide +kernel) ⟨by decide, by decide⟩) hK hZ hA hP hD hS 4 2 rfl rfl rfl hl.1 rfl (Nat.le_of_ble_eq_true rfl) dX4_wake_55 ⟨Nat.zero_le _, Nat.zero_le _⟩ (fun v w' H locs hp hP hD hS => ?_)
      obtain ⟨rfl, rfl⟩ := hp
      have hP : va_P G vwCl (wd a cB cI cZ (nI g) rn lv (nI r) lk ss rw sg (nI (px_rm n od (nI x)).1) ((px_rm n od (nI x)).2) aw tb md ql dr) H := hP
      have hD : va_D A (wd a cB cI cZ (nI g) rn lv (nI r) lk ss rw sg (nI (px_rm n od (nI x)).1) ((px_rm n od (nI x)).2) aw tb md ql dr) := hD
      refine W.eq (g2 := F0 m 58 ls [.int (tb x), .int (ql x), .int (nI x), .ref (a 2)]) rfl ?_
      refine lv_aload_n hx hb dX4_wake_58 rfl (lv_at hl 0 rfl) ?_
      refine va_get (D := G) (ci := 4) (v := .ref (a 4)) (C := RX4) (T := TX4) (N := 4) hx hb hts hin4 hown hK hP 0 rfl rfl 3 (by decide) fl_33 (fun _ h9 => h9) rfl dX4_wake_59 ?_
      refine lv_iload_n hx hb dX4_wake_62 rfl (lv_at hl 1 rfl) ?_
      refine kV (As := [.int (nI x)]) (rest := [.int (tb x), .int (ql x), .int (nI x), .ref (a 2)]) ⟨hx, hb, hml, hown, hts⟩ (c_X2_modeOf l G cB cI cZ tc a (nI g) (nI r) (nI (px_rm n od (nI x)).1) rn lv lk ss rw sg ((px_rm n od (nI x)).2) aw tb md ql dr x hx6) (cwV 1 hts gX4_wake_X2_modeOf rfl rfl rfl (by decide +kernel) ⟨by decide, by decide⟩) hK hZ hA hP hD hS 4 2 rfl rfl rfl hl.1 rfl (Nat.le_of_ble_eq_true rfl) dX4_wake_63 ⟨Nat.zero_le _, Nat.zero_le _⟩ (fun v w' H locs hp hP hD hS => ?_)
      obtain ⟨rfl, rfl⟩ := hp
      have hP : va_P G vwCl (wd a cB cI cZ (nI g) rn lv (nI r) lk ss rw sg (nI (px_rm n od (nI x)).1) ((px_rm n od (nI x)).2) aw tb md ql dr) H := hP
      have hD : va_D A (wd a cB cI cZ (nI g) rn lv (nI r) lk ss rw sg (nI (px_rm n od (nI x)).1) ((px_rm n od (nI x)).2) aw tb md ql dr) := hD
      refine W.eq (g2 := F0 m 66 ls [.int (md x), .int (tb x), .int (ql x), .int (nI x), .ref (a 2)]) rfl ?_
      obtain ⟨y, hy8, ey⟩ := htb x hx6
      obtain ⟨k, hk8, ek⟩ := hmm c_16
      obtain ⟨z, hz8, ez⟩ := hql x hx6
      rw [ey, ek, ez]
      refine kV (As := [.int (nI x), .int (nI z), .int (nI y), .int (nI (k + 1))]) (rest := []) ⟨hx, hb, hml, hown, hts⟩ (c_X0_take l G cB cI cZ tc a (nI g) (nI r) (nI (px_rm n od (nI x)).1) rn lv lk ss rw sg ((px_rm n od (nI x)).2) aw tb md ql dr x y k z hx6 hy8 hk8 hz8) (cwV 4 hts gX4_wake_X0_take rfl rfl rfl (by decide +kernel) ⟨by decide, by decide⟩) hK hZ hA hP hD hS 2 0 rfl rfl rfl hl.1 rfl (Nat.le_of_ble_eq_true rfl) dX4_wake_66 ⟨Nat.zero_le _, Nat.zero_le _⟩ (fun v w' H locs hp hP hD hS => ?_)
      obtain ⟨rfl, rfl⟩ := hp
      have hP : va_P G vwCl (wd a cB cI cZ (nI g) rn (upd lv (64 * x + 8 * y + k) (nI z)) (nI r) lk ss rw sg (nI (px_rm n od (nI x)).1) ((px_rm n od (nI x)).2) aw tb md ql dr) H := hP
      have hD : va_D A (wd a cB cI cZ (nI g) rn (upd lv (64 * x + 8 * y + k) (nI z)) (nI r) lk ss rw sg (nI (px_rm n od (nI x)).1) ((px_rm n od (nI x)).2) aw tb md ql dr) := hD
      refine W.eq (g2 := F0 m 69 ls []) rfl ?_
      refine lv_iload_n hx hb dX4_wake_69 rfl (lv_at hl 1 rfl) ?_
      exact hri _ rfl (nI x) _ _ _ _ _ (rfl) (by rw [if_pos c_16, if_pos c_29]; exact ⟨y, k, z, hy8, hk8, hz8, ey, ek, ez, rfl, rfl⟩) hP hD hS dX4_wake_70
    · refine lv_iload_n hx hb dX4_wake_32 rfl (lv_at hl 1 rfl) ?_
      refine lv_bipush (v := 8) hx hb dX4_wake_33 (by decide) ?_
      refine lv_iadd hx hb dX4_wake_35 ?_
      exact hri _ rfl ((nI x) + 8) _ _ _ _ _ (rfl) (by rw [if_pos c_16, if_neg c_29]; exact ⟨rfl, rfl⟩) hP hD hS dX4_wake_36
  · have c_16 := fw_b1.mp c_16
    have c_16 : ¬ aw x = 0 := by simpa using c_16
    refine lv_iload_n hx hb dX4_wake_19 rfl (lv_at hl 1 rfl) ?_
    exact hri _ rfl (nI x) _ _ _ _ _ (rfl) (by rw [if_neg c_16]; exact ⟨rfl, rfl⟩) hP hD hS dX4_wake_20
end
section
abbrev rmX4_number : Room := { frames := 1, cells := 0, slots := 0, locals := 21 }
set_option maxHeartbeats 4000000 in
set_option maxRecDepth 100000 in
theorem c_number_no (l : Launch) (G : va_G) (cB cI cZ : ClassId) (tc : Nat) (a : Nat → Nat) (rn lv lk ss rw sg od aw tb md ql dr : Nat → Int32) (g : Nat) (r : Nat) (n : Nat) (x1 : Int32) (h : px_isS x1 = false) : KC l yX4_number wsX4_number rmX4_number G [(cB, .byte), (cI, .int), (cZ, .boolean)] tc [.ref (a 0), .int x1] (wd a cB cI cZ (nI g) rn lv (nI r) lk ss rw sg (nI n) od aw tb md ql dr) (fun v w' => v = some (.int (-1)) ∧ w' = (wd a cB cI cZ (nI g) rn lv (nI r) lk ss rw sg (nI n) od aw tb md ql dr)) := by
  refine KC.of (cc := cX4_number) (maxL := 2) (ret := some .int) (by decide) rfl (Nat.le_of_ble_eq_true rfl) ?_
  intro p e s m below meth c args A Q ls hx hb hml hown hts hK hZ hA hP hD hS hl hri hrv
  have hown : s.vm.findClass RX4 = some m.cls := hown
  have hl : lv_has ls 2 [(0, .ref (a 0)), (1, .int x1)] := hl
  have fl_10 := hts (.fieldLink RX4 10 "LockDesk" "numbers" "LLockDesk$Numbers;") (by decide +kernel)
  have hin4 : ∀ w ∈ wsX40, w ∈ wsX4_number := by decide +kernel
  refine lv_iload_n hx hb dX4_number_0 rfl (lv_at hl 1 rfl) ?_
  refine kS (As := [.int x1]) (rest := []) ⟨hx, hb, hml, hown, hts⟩ (c_X4_isSession l G [(cB, .byte), (cI, .int), (cZ, .boolean)] tc (wd a cB cI cZ (nI g) rn lv (nI r) lk ss rw sg (nI n) od aw tb md ql dr) x1) (va_cwS 1 hts gX4_number_X4_isSession rfl rfl rfl (by decide +kernel) ⟨by decide, by decide⟩) hK hZ hA hP hD hS rfl hl.1 rfl (Nat.le_of_ble_eq_true rfl) dX4_number_1 ⟨Nat.zero_le _, Nat.zero_le _⟩ (fun v w' H locs hp hP hD hS => ?_)
  obtain ⟨rfl, rfl⟩ := hp
  have hP : va_P G vwCl (wd a cB cI cZ (nI g) rn lv (nI r) lk ss rw sg (nI n) od aw tb md ql dr) H := hP
  have hD : va_D A (wd a cB cI cZ (nI g) rn lv (nI r) lk ss rw sg (nI n) od aw tb md ql dr) := hD
  refine W.eq (g2 := F0 m 4 ls [.int (fw_b (px_isS x1))]) rfl ?_
  refine lv_if_eq (tgt := 18) hx hb dX4_number_4 (by decide) (fun c_4 => ?_) (fun c_4 => False.elim (by rw [h] at c_4; exact c_4 rfl))
  have c_4 := fw_b0.mp c_4
  refine lv_iconst (v := (-1)) hx hb dX4_number_18 (by decide) ?_
  exact hri _ rfl (-1) _ _ _ _ _ (rfl) (⟨rfl, rfl⟩) hP hD hS dX4_number_19

set_option maxHeartbeats 4000000 in
set_option maxRecDepth 100000 in
theorem c_number_ok (l : Launch) (G : va_G) (cB cI cZ : ClassId) (tc : Nat) (a : Nat → Nat) (rn lv lk ss rw sg od aw tb md ql dr : Nat → Int32) (g : Nat) (r : Nat) (n : Nat) (x : Nat) (hg : g < 4000) (hx6 : x < 6)  : KC l yX4_number wsX4_number rmX4_number G [(cB, .byte), (cI, .int), (cZ, .boolean)] tc [.ref (a 0), .int (nI x)] (wd a cB cI cZ (nI g) rn lv (nI r) lk ss rw sg (nI n) od aw tb md ql dr) (fun v w' => v = some (.int (nI (g + 1))) ∧ w' = (wd a cB cI cZ (nI (g + 1)) (upd rn (g + 1) (nI x)) lv (nI r) lk ss rw sg (nI n) od aw tb md ql dr)) := by
  refine KC.of (cc := cX4_number) (maxL := 2) (ret := some .int) (by decide) rfl (Nat.le_of_ble_eq_true rfl) ?_
  intro p e s m below meth c args A Q ls hx hb hml hown hts hK hZ hA hP hD hS hl hri hrv
  have hown : s.vm.findClass RX4 = some m.cls := hown
  have hl : lv_has ls 2 [(0, .ref (a 0)), (1, .int (nI x))] := hl
  have fl_10 := hts (.fieldLink RX4 10 "LockDesk" "numbers" "LLockDesk$Numbers;") (by decide +kernel)
  have hin4 : ∀ w ∈ wsX40, w ∈ wsX4_number := by decide +kernel
  refine lv_iload_n hx hb dX4_number_0 rfl (lv_at hl 1 rfl) ?_
  refine kS (As := [.int (nI x)]) (rest := []) ⟨hx, hb, hml, hown, hts⟩ (c_X4_isSession l G [(cB, .byte), (cI, .int), (cZ, .boolean)] tc (wd a cB cI cZ (nI g) rn lv (nI r) lk ss rw sg (nI n) od aw tb md ql dr) (nI x)) (va_cwS 1 hts gX4_number_X4_isSession rfl rfl rfl (by decide +kernel) ⟨by decide, by decide⟩) hK hZ hA hP hD hS rfl hl.1 rfl (Nat.le_of_ble_eq_true rfl) dX4_number_1 ⟨Nat.zero_le _, Nat.zero_le _⟩ (fun v w' H locs hp hP hD hS => ?_)
  obtain ⟨rfl, rfl⟩ := hp
  have hP : va_P G vwCl (wd a cB cI cZ (nI g) rn lv (nI r) lk ss rw sg (nI n) od aw tb md ql dr) H := hP
  have hD : va_D A (wd a cB cI cZ (nI g) rn lv (nI r) lk ss rw sg (nI n) od aw tb md ql dr) := hD
  refine W.eq (g2 := F0 m 4 ls [.int (fw_b (px_isS (nI x)))]) rfl ?_
  refine lv_if_eq (tgt := 18) hx hb dX4_number_4 (by decide) (fun c_4 => False.elim (by rw [px_isS_nI x hx6] at c_4; exact absurd c_4 (by decide))) (fun c_4 => ?_)
  have c_4 := fw_b1.mp c_4
  refine lv_aload_n hx hb dX4_number_7 rfl (lv_at hl 0 rfl) ?_
  refine va_get (D := G) (ci := 4) (v := .ref (a 1)) (C := RX4) (T := TX4) (N := 4) hx hb hts hin4 hown hK hP 0 rfl rfl 0 (by decide) fl_10 (fun _ h9 => h9) rfl dX4_number_8 ?_
  refine lv_iload_n hx hb dX4_number_11 rfl (lv_at hl 1 rfl) ?_
  refine kV (As := [.int (nI x)]) (rest := []) ⟨hx, hb, hml, hown, hts⟩ (c_X1_give l G cB cI cZ tc a (nI r) (nI n) rn lv lk ss rw sg od aw tb md ql dr g x hg hx6) (cwV 1 hts gX4_number_X1_give rfl rfl rfl (by decide +kernel) ⟨by decide, by decide⟩) hK hZ hA hP hD hS 1 1 rfl rfl rfl hl.1 rfl (Nat.le_of_ble_eq_true rfl) dX4_number_12 ⟨Nat.zero_le _, Nat.zero_le _⟩ (fun v w' H locs hp hP hD hS => ?_)
  obtain ⟨rfl, rfl⟩ := hp
  have hP : va_P G vwCl (wd a cB cI cZ (nI (g + 1)) (upd rn (g + 1) (nI x)) lv (nI r) lk ss rw sg (nI n) od aw tb md ql dr) H := hP
  have hD : va_D A (wd a cB cI cZ (nI (g + 1)) (upd rn (g + 1) (nI x)) lv (nI r) lk ss rw sg (nI n) od aw tb md ql dr) := hD
  refine W.eq (g2 := F0 m 15 ls [.int (nI (g + 1))]) rfl ?_
  refine lv_goto (tgt := 19) hx hb dX4_number_15 (by decide) ?_
  exact hri _ rfl (nI (g + 1)) _ _ _ _ _ (rfl) (⟨rfl, rfl⟩) hP hD hS dX4_number_19

abbrev rmX4_over : Room := { frames := 3, cells := 0, slots := 0, locals := 67 }
set_option maxHeartbeats 4000000 in
set_option maxRecDepth 100000 in
theorem c_over_no (l : Launch) (G : va_G) (cB cI cZ : ClassId) (tc : Nat) (a : Nat → Nat) (rn lv lk ss rw sg od aw tb md ql dr : Nat → Int32) (g : Nat) (r : Nat) (n : Nat) (x1 : Int32) (hg : g < 4000) (h : px_run g rn x1 = -1) : KC l yX4_over wsX4_over rmX4_over G [(cB, .byte), (cI, .int), (cZ, .boolean)] tc [.ref (a 0), .int x1] (wd a cB cI cZ (nI g) rn lv (nI r) lk ss rw sg (nI n) od aw tb md ql dr) (fun v w' => v = some (.int (0)) ∧ w' = (wd a cB cI cZ (nI g) rn lv (nI r) lk ss rw sg (nI n) od aw tb md ql dr)) := by
  refine KC.of (cc := cX4_over) (maxL := 2) (ret := some .boolean) (by decide) rfl (Nat.le_of_ble_eq_true rfl) ?_
  intro p e s m below meth c args A Q ls hx hb hml hown hts hK hZ hA hP hD hS hl hri hrv
  have hown : s.vm.findClass RX4 = some m.cls := hown
  have hl : lv_has ls 2 [(0, .ref (a 0)), (1, .int x1)] := hl
  have fl_10 := hts (.fieldLink RX4 10 "LockDesk" "numbers" "LLockDesk$Numbers;") (by decide +kernel)
  have fl_26 := hts (.fieldLink RX4 26 "LockDesk" "rowLocks" "LLockDesk$RowLocks;") (by decide +kernel)
  have hin4 : ∀ w ∈ wsX40, w ∈ wsX4_over := by decide +kernel
  refine lv_aload_n hx hb dX4_over_0 rfl (lv_at hl 0 rfl) ?_
  refine va_get (D := G) (ci := 4) (v := .ref (a 1)) (C := RX4) (T := TX4) (N := 4) hx hb hts hin4 hown hK hP 0 rfl rfl 0 (by decide) fl_10 (fun _ h9 => h9) rfl dX4_over_1 ?_
  refine lv_iload_n hx hb dX4_over_4 rfl (lv_at hl 1 rfl) ?_
  refine kV (As := [.int x1]) (rest := []) ⟨hx, hb, hml, hown, hts⟩ (c_X1_runnerOf l G cB cI cZ tc a (nI r) (nI n) rn lv lk ss rw sg od aw tb md ql dr g x1 hg) (cwV 1 hts gX4_over_X1_runnerOf rfl rfl rfl (by decide +kernel) ⟨by decide, by decide⟩) hK hZ hA hP hD hS 1 1 rfl rfl rfl hl.1 rfl (Nat.le_of_ble_eq_true rfl) dX4_over_5 ⟨Nat.zero_le _, Nat.zero_le _⟩ (fun v w' H locs hp hP hD hS => ?_)
  obtain ⟨rfl, rfl⟩ := hp
  have hP : va_P G vwCl (wd a cB cI cZ (nI g) rn lv (nI r) lk ss rw sg (nI n) od aw tb md ql dr) H := hP
  have hD : va_D A (wd a cB cI cZ (nI g) rn lv (nI r) lk ss rw sg (nI n) od aw tb md ql dr) := hD
  refine W.eq (g2 := F0 m 8 ls [.int (px_run g rn x1)]) rfl ?_
  refine lv_iconst (v := (-1)) hx hb dX4_over_8 (by decide) ?_
  refine lv_icmp_ne (tgt := 14) hx hb dX4_over_9 (by decide) (fun c_9 => False.elim (c_9 h)) (fun c_9 => ?_)
  refine lv_iconst (v := 0) hx hb dX4_over_12 (by decide) ?_
  exact hri _ rfl 0 _ _ _ _ _ (by decide) (⟨rfl, rfl⟩) hP hD hS dX4_over_13

set_option maxHeartbeats 4000000 in
set_option maxRecDepth 100000 in
theorem c_over_ok (l : Launch) (G : va_G) (cB cI cZ : ClassId) (tc : Nat) (a : Nat → Nat) (rn lv lk ss rw sg od aw tb md ql dr : Nat → Int32) (g : Nat) (r : Nat) (n : Nat) (k : Nat) (hg : g < 4000) (hr5 : r ≤ 512) (hk1 : 1 ≤ k) (hk2 : k ≤ g) (h : ¬ rn k = -1) : KC l yX4_over wsX4_over rmX4_over G [(cB, .byte), (cI, .int), (cZ, .boolean)] tc [.ref (a 0), .int (nI k)] (wd a cB cI cZ (nI g) rn lv (nI r) lk ss rw sg (nI n) od aw tb md ql dr) (fun v w' => v = some (.int (1)) ∧ w' = (wd a cB cI cZ (nI g) (upd rn k (-1)) lv (nI (px_fw (fun q => q.1) (nI k) r (lk, ss, rw, sg)).1) ((px_fw (fun q => q.1) (nI k) r (lk, ss, rw, sg)).2.1) ((px_fw (fun q => q.1) (nI k) r (lk, ss, rw, sg)).2.2.1) ((px_fw (fun q => q.1) (nI k) r (lk, ss, rw, sg)).2.2.2.1) ((px_fw (fun q => q.1) (nI k) r (lk, ss, rw, sg)).2.2.2.2) (nI n) od aw tb md ql dr)) := by
  refine KC.of (cc := cX4_over) (maxL := 2) (ret := some .boolean) (by decide) rfl (Nat.le_of_ble_eq_true rfl) ?_
  intro p e s m below meth c args A Q ls hx hb hml hown hts hK hZ hA hP hD hS hl hri hrv
  have hown : s.vm.findClass RX4 = some m.cls := hown
  have hl : lv_has ls 2 [(0, .ref (a 0)), (1, .int (nI k))] := hl
  have fl_10 := hts (.fieldLink RX4 10 "LockDesk" "numbers" "LLockDesk$Numbers;") (by decide +kernel)
  have fl_26 := hts (.fieldLink RX4 26 "LockDesk" "rowLocks" "LLockDesk$RowLocks;") (by decide +kernel)
  have hin4 : ∀ w ∈ wsX40, w ∈ wsX4_over := by decide +kernel
  refine lv_aload_n hx hb dX4_over_0 rfl (lv_at hl 0 rfl) ?_
  refine va_get (D := G) (ci := 4) (v := .ref (a 1)) (C := RX4) (T := TX4) (N := 4) hx hb hts hin4 hown hK hP 0 rfl rfl 0 (by decide) fl_10 (fun _ h9 => h9) rfl dX4_over_1 ?_
  refine lv_iload_n hx hb dX4_over_4 rfl (lv_at hl 1 rfl) ?_
  refine kV (As := [.int (nI k)]) (rest := []) ⟨hx, hb, hml, hown, hts⟩ (c_X1_runnerOf l G cB cI cZ tc a (nI r) (nI n) rn lv lk ss rw sg od aw tb md ql dr g (nI k) hg) (cwV 1 hts gX4_over_X1_runnerOf rfl rfl rfl (by decide +kernel) ⟨by decide, by decide⟩) hK hZ hA hP hD hS 1 1 rfl rfl rfl hl.1 rfl (Nat.le_of_ble_eq_true rfl) dX4_over_5 ⟨Nat.zero_le _, Nat.zero_le _⟩ (fun v w' H locs hp hP hD hS => ?_)
  obtain ⟨rfl, rfl⟩ := hp
  have hP : va_P G vwCl (wd a cB cI cZ (nI g) rn lv (nI r) lk ss rw sg (nI n) od aw tb md ql dr) H := hP
  have hD : va_D A (wd a cB cI cZ (nI g) rn lv (nI r) lk ss rw sg (nI n) od aw tb md ql dr) := hD
  refine W.eq (g2 := F0 m 8 ls [.int (px_run g rn (nI k))]) rfl ?_
  refine lv_iconst (v := (-1)) hx hb dX4_over_8 (by decide) ?_
  refine lv_icmp_ne (tgt := 14) hx hb dX4_over_9 (by decide) (fun c_9 => ?_) (fun c_9 => False.elim (h ((px_run_nI (by omega) hk1 hk2).symm.trans c_9)))
  refine lv_aload_n hx hb dX4_over_14 rfl (lv_at hl 0 rfl) ?_
  refine va_get (D := G) (ci := 4) (v := .ref (a 1)) (C := RX4) (T := TX4) (N := 4) hx hb hts hin4 hown hK hP 0 rfl rfl 0 (by decide) fl_10 (fun _ h9 => h9) rfl dX4_over_15 ?_
  refine lv_iload_n hx hb dX4_over_18 rfl (lv_at hl 1 rfl) ?_
  refine kV (As := [.int (nI k)]) (rest := []) ⟨hx, hb, hml, hown, hts⟩ (c_X1_stop l G cB cI cZ tc a (nI r) (nI n) rn lv lk ss rw sg od aw tb md ql dr g k hg hk1 hk2) (cwV 1 hts gX4_over_X1_stop rfl rfl rfl (by decide +kernel) ⟨by decide, by decide⟩) hK hZ hA hP hD hS 1 1 rfl rfl rfl hl.1 rfl (Nat.le_of_ble_eq_true rfl) dX4_over_19 ⟨Nat.zero_le _, Nat.zero_le _⟩ (fun v w' H locs hp hP hD hS => ?_)
  obtain ⟨rfl, rfl⟩ := hp
  have hP : va_P G vwCl (wd a cB cI cZ (nI g) (upd rn k (-1)) lv (nI r) lk ss rw sg (nI n) od aw tb md ql dr) H := hP
  have hD : va_D A (wd a cB cI cZ (nI g) (upd rn k (-1)) lv (nI r) lk ss rw sg (nI n) od aw tb md ql dr) := hD
  refine W.eq (g2 := F0 m 22 ls []) rfl ?_
  refine lv_aload_n hx hb dX4_over_22 rfl (lv_at hl 0 rfl) ?_
  refine va_get (D := G) (ci := 4) (v := .ref (a 3)) (C := RX4) (T := TX4) (N := 4) hx hb hts hin4 hown hK hP 0 rfl rfl 2 (by decide) fl_26 (fun _ h9 => h9) rfl dX4_over_23 ?_
  refine lv_iload_n hx hb dX4_over_26 rfl (lv_at hl 1 rfl) ?_
  refine kV (As := [.int (nI k)]) (rest := []) ⟨hx, hb, hml, hown, hts⟩ (c_X3_forgetNumber l G cB cI cZ tc a (nI g) (nI n) (upd rn k (-1)) lv lk ss rw sg od aw tb md ql dr r (nI k) hr5) (cwV 1 hts gX4_over_X3_forgetNumber rfl rfl rfl (by decide +kernel) ⟨by decide, by decide⟩) hK hZ hA hP hD hS 3 3 rfl rfl rfl hl.1 rfl (Nat.le_of_ble_eq_true rfl) dX4_over_27 ⟨Nat.zero_le _, Nat.zero_le _⟩ (fun v w' H locs hp hP hD hS => ?_)
  obtain ⟨rfl, rfl⟩ := hp
  have hP : va_P G vwCl (wd a cB cI cZ (nI g) (upd rn k (-1)) lv (nI (px_fw (fun q => q.1) (nI k) r (lk, ss, rw, sg)).1) ((px_fw (fun q => q.1) (nI k) r (lk, ss, rw, sg)).2.1) ((px_fw (fun q => q.1) (nI k) r (lk, ss, rw, sg)).2.2.1) ((px_fw (fun q => q.1) (nI k) r (lk, ss, rw, sg)).2.2.2.1) ((px_fw (fun q => q.1) (nI k) r (lk, ss, rw, sg)).2.2.2.2) (nI n) od aw tb md ql dr) H := hP
  have hD : va_D A (wd a cB cI cZ (nI g) (upd rn k (-1)) lv (nI (px_fw (fun q => q.1) (nI k) r (lk, ss, rw, sg)).1) ((px_fw (fun q => q.1) (nI k) r (lk, ss, rw, sg)).2.1) ((px_fw (fun q => q.1) (nI k) r (lk, ss, rw, sg)).2.2.1) ((px_fw (fun q => q.1) (nI k) r (lk, ss, rw, sg)).2.2.2.1) ((px_fw (fun q => q.1) (nI k) r (lk, ss, rw, sg)).2.2.2.2) (nI n) od aw tb md ql dr) := hD
  refine W.eq (g2 := F0 m 30 ls []) rfl ?_
  refine lv_iconst (v := 1) hx hb dX4_over_30 (by decide) ?_
  exact hri _ rfl 1 _ _ _ _ _ (by decide) (⟨rfl, rfl⟩) hP hD hS dX4_over_31

abbrev rmX4_ask : Room := { frames := 6, cells := 0, slots := 0, locals := 142 }
set_option maxHeartbeats 4000000 in
set_option maxRecDepth 100000 in
theorem c_ask_no (l : Launch) (G : va_G) (cB cI cZ : ClassId) (tc : Nat) (a : Nat → Nat) (rn lv lk ss rw sg od aw tb md ql dr : Nat → Int32) (g : Nat) (r : Nat) (n : Nat) (x1 : Int32) (x2 : Int32) (x3 : Int32) (x4 : Int32) (h : (px_isS x1 && px_isT x2 && px_isT x3 && px_isM x4) = false) : KC l yX4_ask wsX4_ask rmX4_ask G [(cB, .byte), (cI, .int), (cZ, .boolean)] tc [.ref (a 0), .int x1, .int x2, .int x3, .int x4] (wd a cB cI cZ (nI g) rn lv (nI r) lk ss rw sg (nI n) od aw tb md ql dr) (fun v w' => v = some (.int (-1)) ∧ w' = (wd a cB cI cZ (nI g) rn lv (nI r) lk ss rw sg (nI n) od aw tb md ql dr)) := by
  refine KC.of (cc := cX4_ask) (maxL := 6) (ret := some .int) (by decide) rfl (Nat.le_of_ble_eq_true rfl) ?_
  intro p e s m below meth c args A Q ls hx hb hml hown hts hK hZ hA hP hD hS hl hri hrv
  have hown : s.vm.findClass RX4 = some m.cls := hown
  have hl : lv_has ls 6 [(0, .ref (a 0)), (1, .int x1), (2, .int x2), (3, .int x3), (4, .int x4)] := hl
  have fl_19 := hts (.fieldLink RX4 19 "LockDesk" "holdings" "LLockDesk$Holdings;") (by decide +kernel)
  have fl_33 := hts (.fieldLink RX4 33 "LockDesk" "queue" "LLockDesk$Queue;") (by decide +kernel)
  have hin4 : ∀ w ∈ wsX40, w ∈ wsX4_ask := by decide +kernel
  refine lv_iload_n hx hb dX4_ask_0 rfl (lv_at hl 1 rfl) ?_
  refine kS (As := [.int x1]) (rest := []) ⟨hx, hb, hml, hown, hts⟩ (c_X4_isSession l G [(cB, .byte), (cI, .int), (cZ, .boolean)] tc (wd a cB cI cZ (nI g) rn lv (nI r) lk ss rw sg (nI n) od aw tb md ql dr) x1) (va_cwS 1 hts gX4_ask_X4_isSession rfl rfl rfl (by decide +kernel) ⟨by decide, by decide⟩) hK hZ hA hP hD hS rfl hl.1 rfl (Nat.le_of_ble_eq_true rfl) dX4_ask_1 ⟨Nat.zero_le _, Nat.zero_le _⟩ (fun v w' H locs hp hP hD hS => ?_)
  obtain ⟨rfl, rfl⟩ := hp
  have hP : va_P G vwCl (wd a cB cI cZ (nI g) rn lv (nI r) lk ss rw sg (nI n) od aw tb md ql dr) H := hP
  have hD : va_D A (wd a cB cI cZ (nI g) rn lv (nI r) lk ss rw sg (nI n) od aw tb md ql dr) := hD
  refine W.eq (g2 := F0 m 4 ls [.int (fw_b (px_isS x1))]) rfl ?_
  refine lv_if_eq (tgt := 29) hx hb dX4_ask_4 (by decide) (fun c_4 => ?_) (fun c_4 => ?_)
  · have c_4 := fw_b0.mp c_4
    refine lv_iconst (v := (-1)) hx hb dX4_ask_29 (by decide) ?_
    exact hri _ rfl (-1) _ _ _ _ _ (rfl) (⟨rfl, rfl⟩) hP hD hS dX4_ask_30
  · have c_4 := fw_b1.mp c_4
    refine lv_iload_n hx hb dX4_ask_7 rfl (lv_at hl 2 rfl) ?_
    refine kS (As := [.int x2]) (rest := []) ⟨hx, hb, hml, hown, hts⟩ (c_X4_isLevel l G [(cB, .byte), (cI, .int), (cZ, .boolean)] tc (wd a cB cI cZ (nI g) rn lv (nI r) lk ss rw sg (nI n) od aw tb md ql dr) x2) (va_cwS 1 hts gX4_ask_X4_isLevel rfl rfl rfl (by decide +kernel) ⟨by decide, by decide⟩) hK hZ hA hP hD hS rfl hl.1 rfl (Nat.le_of_ble_eq_true rfl) dX4_ask_8 ⟨Nat.zero_le _, Nat.zero_le _⟩ (fun v w' H locs hp hP hD hS => ?_)
    obtain ⟨rfl, rfl⟩ := hp
    have hP : va_P G vwCl (wd a cB cI cZ (nI g) rn lv (nI r) lk ss rw sg (nI n) od aw tb md ql dr) H := hP
    have hD : va_D A (wd a cB cI cZ (nI g) rn lv (nI r) lk ss rw sg (nI n) od aw tb md ql dr) := hD
    refine W.eq (g2 := F0 m 11 ls [.int (fw_b (px_isT x2))]) rfl ?_
    refine lv_if_eq (tgt := 29) hx hb dX4_ask_11 (by decide) (fun c_11 => ?_) (fun c_11 => ?_)
    · have c_11 := fw_b0.mp c_11
      refine lv_iconst (v := (-1)) hx hb dX4_ask_29 (by decide) ?_
      exact hri _ rfl (-1) _ _ _ _ _ (rfl) (⟨rfl, rfl⟩) hP hD hS dX4_ask_30
    · have c_11 := fw_b1.mp c_11
      refine lv_iload_n hx hb dX4_ask_14 rfl (lv_at hl 3 rfl) ?_
      refine kS (As := [.int x3]) (rest := []) ⟨hx, hb, hml, hown, hts⟩ (c_X4_isTable l G [(cB, .byte), (cI, .int), (cZ, .boolean)] tc (wd a cB cI cZ (nI g) rn lv (nI r) lk ss rw sg (nI n) od aw tb md ql dr) x3) (va_cwS 1 hts gX4_ask_X4_isTable rfl rfl rfl (by decide +kernel) ⟨by decide, by decide⟩) hK hZ hA hP hD hS rfl hl.1 rfl (Nat.le_of_ble_eq_true rfl) dX4_ask_15 ⟨Nat.zero_le _, Nat.zero_le _⟩ (fun v w' H locs hp hP hD hS => ?_)
      obtain ⟨rfl, rfl⟩ := hp
      have hP : va_P G vwCl (wd a cB cI cZ (nI g) rn lv (nI r) lk ss rw sg (nI n) od aw tb md ql dr) H := hP
      have hD : va_D A (wd a cB cI cZ (nI g) rn lv (nI r) lk ss rw sg (nI n) od aw tb md ql dr) := hD
      refine W.eq (g2 := F0 m 18 ls [.int (fw_b (px_isT x3))]) rfl ?_
      refine lv_if_eq (tgt := 29) hx hb dX4_ask_18 (by decide) (fun c_18 => ?_) (fun c_18 => ?_)
      · have c_18 := fw_b0.mp c_18
        refine lv_iconst (v := (-1)) hx hb dX4_ask_29 (by decide) ?_
        exact hri _ rfl (-1) _ _ _ _ _ (rfl) (⟨rfl, rfl⟩) hP hD hS dX4_ask_30
      · have c_18 := fw_b1.mp c_18
        refine lv_iload hx hb dX4_ask_21 (lv_at hl 4 rfl) ?_
        refine kS (As := [.int x4]) (rest := []) ⟨hx, hb, hml, hown, hts⟩ (c_X4_isMode l G [(cB, .byte), (cI, .int), (cZ, .boolean)] tc (wd a cB cI cZ (nI g) rn lv (nI r) lk ss rw sg (nI n) od aw tb md ql dr) x4) (va_cwS 1 hts gX4_ask_X4_isMode rfl rfl rfl (by decide +kernel) ⟨by decide, by decide⟩) hK hZ hA hP hD hS rfl hl.1 rfl (Nat.le_of_ble_eq_true rfl) dX4_ask_23 ⟨Nat.zero_le _, Nat.zero_le _⟩ (fun v w' H locs hp hP hD hS => ?_)
        obtain ⟨rfl, rfl⟩ := hp
        have hP : va_P G vwCl (wd a cB cI cZ (nI g) rn lv (nI r) lk ss rw sg (nI n) od aw tb md ql dr) H := hP
        have hD : va_D A (wd a cB cI cZ (nI g) rn lv (nI r) lk ss rw sg (nI n) od aw tb md ql dr) := hD
        refine W.eq (g2 := F0 m 26 ls [.int (fw_b (px_isM x4))]) rfl ?_
        refine lv_if_ne (tgt := 31) hx hb dX4_ask_26 (by decide) (fun c_26 => False.elim (by have c_26 := fw_b1.mp c_26; simp [c_4, c_11, c_18, c_26] at h)) (fun c_26 => ?_)
        have c_26 := fw_b0.mp c_26
        refine lv_iconst (v := (-1)) hx hb dX4_ask_29 (by decide) ?_
        exact hri _ rfl (-1) _ _ _ _ _ (rfl) (⟨rfl, rfl⟩) hP hD hS dX4_ask_30

set_option maxHeartbeats 4000000 in
set_option maxRecDepth 100000 in
theorem c_ask_ok (l : Launch) (G : va_G) (cB cI cZ : ClassId) (tc : Nat) (a : Nat → Nat) (rn lv lk ss rw sg od aw tb md ql dr : Nat → Int32) (g : Nat) (r : Nat) (n : Nat) (x : Nat) (z : Nat) (y : Nat) (k : Nat) (hx6 : x < 6) (hz8 : z < 8) (hy8 : y < 8) (hk8 : k < 8) (hn : (px_pl n od (nI x)).isSome = false → n < 6) (hI : px_I g n od aw tb md ql dr) : KC l yX4_ask wsX4_ask rmX4_ask G [(cB, .byte), (cI, .int), (cZ, .boolean)] tc [.ref (a 0), .int (nI x), .int (nI z), .int (nI y), .int (nI (k + 1))] (wd a cB cI cZ (nI g) rn lv (nI r) lk ss rw sg (nI n) od aw tb md ql dr) (fun v w' => if (px_pl n od (nI x)).isSome = true then v = some (.int (-1)) ∧ w' = (wd a cB cI cZ (nI g) rn lv (nI r) lk ss rw sg (nI n) od aw tb md ql dr) else if ¬ lv (64 * x + 8 * y + k) = -1 then v = some (.int 0) ∧ w' = (wd a cB cI cZ (nI g) rn lv (nI r) lk ss rw sg (nI n) od aw tb md ql dr) else if px_way n lv od aw tb md dr x y (k + 1) n = 0 then v = some (.int 0) ∧ w' = (wd a cB cI cZ (nI g) rn (upd lv (64 * x + 8 * y + k) (nI z)) (nI r) lk ss rw sg (nI n) od aw tb md ql dr) else if px_cr (px_wo g n rn lv od aw tb md dr) (nI x) (px_way n lv od aw tb md dr x y (k + 1) n) = true then v = some (.int 2) ∧ w' = (wd a cB cI cZ (nI g) rn lv (nI r) lk ss rw sg (nI n) od aw tb md ql dr) else v = some (.int 1) ∧ w' = (wd a cB cI cZ (nI g) rn lv (nI r) lk ss rw sg (nI (n + 1)) (upd od n (nI x)) (upd aw x 0) (upd tb x (nI y)) (upd md x (nI (k + 1))) (upd ql x (nI z)) (upd dr x 0))) := by
  refine KC.of (cc := cX4_ask) (maxL := 6) (ret := some .int) (by decide) rfl (Nat.le_of_ble_eq_true rfl) ?_
  intro p e s m below meth c args A Q ls hx hb hml hown hts hK hZ hA hP hD hS hl hri hrv
  have hown : s.vm.findClass RX4 = some m.cls := hown
  have hl : lv_has ls 6 [(0, .ref (a 0)), (1, .int (nI x)), (2, .int (nI z)), (3, .int (nI y)), (4, .int (nI (k + 1)))] := hl
  have fl_19 := hts (.fieldLink RX4 19 "LockDesk" "holdings" "LLockDesk$Holdings;") (by decide +kernel)
  have fl_33 := hts (.fieldLink RX4 33 "LockDesk" "queue" "LLockDesk$Queue;") (by decide +kernel)
  have hin4 : ∀ w ∈ wsX40, w ∈ wsX4_ask := by decide +kernel
  have hI0 := hI
  obtain ⟨hg, hn6, hod, htb, hmd, hdr, hql, hmk⟩ := hI
  refine lv_iload_n hx hb dX4_ask_0 rfl (lv_at hl 1 rfl) ?_
  refine kS (As := [.int (nI x)]) (rest := []) ⟨hx, hb, hml, hown, hts⟩ (c_X4_isSession l G [(cB, .byte), (cI, .int), (cZ, .boolean)] tc (wd a cB cI cZ (nI g) rn lv (nI r) lk ss rw sg (nI n) od aw tb md ql dr) (nI x)) (va_cwS 1 hts gX4_ask_X4_isSession rfl rfl rfl (by decide +kernel) ⟨by decide, by decide⟩) hK hZ hA hP hD hS rfl hl.1 rfl (Nat.le_of_ble_eq_true rfl) dX4_ask_1 ⟨Nat.zero_le _, Nat.zero_le _⟩ (fun v w' H locs hp hP hD hS => ?_)
  obtain ⟨rfl, rfl⟩ := hp
  have hP : va_P G vwCl (wd a cB cI cZ (nI g) rn lv (nI r) lk ss rw sg (nI n) od aw tb md ql dr) H := hP
  have hD : va_D A (wd a cB cI cZ (nI g) rn lv (nI r) lk ss rw sg (nI n) od aw tb md ql dr) := hD
  refine W.eq (g2 := F0 m 4 ls [.int (fw_b (px_isS (nI x)))]) rfl ?_
  refine lv_if_eq (tgt := 29) hx hb dX4_ask_4 (by decide) (fun c_4 => False.elim (by rw [px_isS_nI x hx6] at c_4; exact absurd c_4 (by decide))) (fun c_4 => ?_)
  have c_4 := fw_b1.mp c_4
  refine lv_iload_n hx hb dX4_ask_7 rfl (lv_at hl 2 rfl) ?_
  refine kS (As := [.int (nI z)]) (rest := []) ⟨hx, hb, hml, hown, hts⟩ (c_X4_isLevel l G [(cB, .byte), (cI, .int), (cZ, .boolean)] tc (wd a cB cI cZ (nI g) rn lv (nI r) lk ss rw sg (nI n) od aw tb md ql dr) (nI z)) (va_cwS 1 hts gX4_ask_X4_isLevel rfl rfl rfl (by decide +kernel) ⟨by decide, by decide⟩) hK hZ hA hP hD hS rfl hl.1 rfl (Nat.le_of_ble_eq_true rfl) dX4_ask_8 ⟨Nat.zero_le _, Nat.zero_le _⟩ (fun v w' H locs hp hP hD hS => ?_)
  obtain ⟨rfl, rfl⟩ := hp
  have hP : va_P G vwCl (wd a cB cI cZ (nI g) rn lv (nI r) lk ss rw sg (nI n) od aw tb md ql dr) H := hP
  have hD : va_D A (wd a cB cI cZ (nI g) rn lv (nI r) lk ss rw sg (nI n) od aw tb md ql dr) := hD
  refine W.eq (g2 := F0 m 11 ls [.int (fw_b (px_isT (nI z)))]) rfl ?_
  refine lv_if_eq (tgt := 29) hx hb dX4_ask_11 (by decide) (fun c_11 => False.elim (by rw [px_isT_nI z hz8] at c_11; exact absurd c_11 (by decide))) (fun c_11 => ?_)
  have c_11 := fw_b1.mp c_11
  refine lv_iload_n hx hb dX4_ask_14 rfl (lv_at hl 3 rfl) ?_
  refine kS (As := [.int (nI y)]) (rest := []) ⟨hx, hb, hml, hown, hts⟩ (c_X4_isTable l G [(cB, .byte), (cI, .int), (cZ, .boolean)] tc (wd a cB cI cZ (nI g) rn lv (nI r) lk ss rw sg (nI n) od aw tb md ql dr) (nI y)) (va_cwS 1 hts gX4_ask_X4_isTable rfl rfl rfl (by decide +kernel) ⟨by decide, by decide⟩) hK hZ hA hP hD hS rfl hl.1 rfl (Nat.le_of_ble_eq_true rfl) dX4_ask_15 ⟨Nat.zero_le _, Nat.zero_le _⟩ (fun v w' H locs hp hP hD hS => ?_)
  obtain ⟨rfl, rfl⟩ := hp
  have hP : va_P G vwCl (wd a cB cI cZ (nI g) rn lv (nI r) lk ss rw sg (nI n) od aw tb md ql dr) H := hP
  have hD : va_D A (wd a cB cI cZ (nI g) rn lv (nI r) lk ss rw sg (nI n) od aw tb md ql dr) := hD
  refine W.eq (g2 := F0 m 18 ls [.int (fw_b (px_isT (nI y)))]) rfl ?_
  refine lv_if_eq (tgt := 29) hx hb dX4_ask_18 (by decide) (fun c_18 => False.elim (by rw [px_isT_nI y hy8] at c_18; exact absurd c_18 (by decide))) (fun c_18 => ?_)
  have c_18 := fw_b1.mp c_18
  refine lv_iload hx hb dX4_ask_21 (lv_at hl 4 rfl) ?_
  refine kS (As := [.int (nI (k + 1))]) (rest := []) ⟨hx, hb, hml, hown, hts⟩ (c_X4_isMode l G [(cB, .byte), (cI, .int), (cZ, .boolean)] tc (wd a cB cI cZ (nI g) rn lv (nI r) lk ss rw sg (nI n) od aw tb md ql dr) (nI (k + 1))) (va_cwS 1 hts gX4_ask_X4_isMode rfl rfl rfl (by decide +kernel) ⟨by decide, by decide⟩) hK hZ hA hP hD hS rfl hl.1 rfl (Nat.le_of_ble_eq_true rfl) dX4_ask_23 ⟨Nat.zero_le _, Nat.zero_le _⟩ (fun v w' H locs hp hP hD hS => ?_)
  obtain ⟨rfl, rfl⟩ := hp
  have hP : va_P G vwCl (wd a cB cI cZ (nI g) rn lv (nI r) lk ss rw sg (nI n) od aw tb md ql dr) H := hP
  have hD : va_D A (wd a cB cI cZ (nI g) rn lv (nI r) lk ss rw sg (nI n) od aw tb md ql dr) := hD
  refine W.eq (g2 := F0 m 26 ls [.int (fw_b (px_isM (nI (k + 1))))]) rfl ?_
  refine lv_if_ne (tgt := 31) hx hb dX4_ask_26 (by decide) (fun c_26 => ?_) (fun c_26 => False.elim (by rw [px_isM_nI k hk8] at c_26; exact absurd c_26 (by decide)))
  have c_26 := fw_b1.mp c_26
  refine lv_aload_n hx hb dX4_ask_31 rfl (lv_at hl 0 rfl) ?_
  refine va_get (D := G) (ci := 4) (v := .ref (a 4)) (C := RX4) (T := TX4) (N := 4) hx hb hts hin4 hown hK hP 0 rfl rfl 3 (by decide) fl_33 (fun _ h9 => h9) rfl dX4_ask_32 ?_
  refine lv_iload_n hx hb dX4_ask_35 rfl (lv_at hl 1 rfl) ?_
  refine kV (As := [.int (nI x)]) (rest := []) ⟨hx, hb, hml, hown, hts⟩ (c_X2_contains l G cB cI cZ tc a (nI g) (nI r) rn lv lk ss rw sg od aw tb md ql dr n (nI x) hn6) (cwV 1 hts gX4_ask_X2_contains rfl rfl rfl (by decide +kernel) ⟨by decide, by decide⟩) hK hZ hA hP hD hS 4 2 rfl rfl rfl hl.1 rfl (Nat.le_of_ble_eq_true rfl) dX4_ask_36 ⟨Nat.zero_le _, Nat.zero_le _⟩ (fun v w' H locs hp hP hD hS => ?_)
  obtain ⟨rfl, rfl⟩ := hp
  have hP : va_P G vwCl (wd a cB cI cZ (nI g) rn lv (nI r) lk ss rw sg (nI n) od aw tb md ql dr) H := hP
  have hD : va_D A (wd a cB cI cZ (nI g) rn lv (nI r) lk ss rw sg (nI n) od aw tb md ql dr) := hD
  refine W.eq (g2 := F0 m 39 ls [.int (fw_b (px_pl n od (nI x)).isSome)]) rfl ?_
  refine lv_if_eq (tgt := 44) hx hb dX4_ask_39 (by decide) (fun c_39 => ?_) (fun c_39 => ?_)
  · have c_39 := fw_b0.mp c_39
    refine lv_aload_n hx hb dX4_ask_44 rfl (lv_at hl 0 rfl) ?_
    refine va_get (D := G) (ci := 4) (v := .ref (a 2)) (C := RX4) (T := TX4) (N := 4) hx hb hts hin4 hown hK hP 0 rfl rfl 1 (by decide) fl_19 (fun _ h9 => h9) rfl dX4_ask_45 ?_
    refine lv_iload_n hx hb dX4_ask_48 rfl (lv_at hl 1 rfl) ?_
    refine lv_iload_n hx hb dX4_ask_49 rfl (lv_at hl 3 rfl) ?_
    refine lv_iload hx hb dX4_ask_50 (lv_at hl 4 rfl) ?_
    refine kV (As := [.int (nI x), .int (nI y), .int (nI (k + 1))]) (rest := []) ⟨hx, hb, hml, hown, hts⟩ (c_X0_levelOf l G cB cI cZ tc a (nI g) (nI r) (nI n) rn lv lk ss rw sg od aw tb md ql dr x y k hx6 hy8 hk8) (cwV 3 hts gX4_ask_X0_levelOf rfl rfl rfl (by decide +kernel) ⟨by decide, by decide⟩) hK hZ hA hP hD hS 2 0 rfl rfl rfl hl.1 rfl (Nat.le_of_ble_eq_true rfl) dX4_ask_52 ⟨Nat.zero_le _, Nat.zero_le _⟩ (fun v w' H locs hp hP hD hS => ?_)
    obtain ⟨rfl, rfl⟩ := hp
    have hP : va_P G vwCl (wd a cB cI cZ (nI g) rn lv (nI r) lk ss rw sg (nI n) od aw tb md ql dr) H := hP
    have hD : va_D A (wd a cB cI cZ (nI g) rn lv (nI r) lk ss rw sg (nI n) od aw tb md ql dr) := hD
    refine W.eq (g2 := F0 m 55 ls [.int (lv (64 * x + 8 * y + k))]) rfl ?_
    refine lv_iconst (v := (-1)) hx hb dX4_ask_55 (by decide) ?_
    refine lv_icmp_eq (tgt := 61) hx hb dX4_ask_56 (by decide) (fun c_56 => ?_) (fun c_56 => ?_)
    · refine lv_aload_n hx hb dX4_ask_61 rfl (lv_at hl 0 rfl) ?_
      refine lv_iload_n hx hb dX4_ask_62 rfl (lv_at hl 1 rfl) ?_
      refine lv_iload_n hx hb dX4_ask_63 rfl (lv_at hl 3 rfl) ?_
      refine lv_iload hx hb dX4_ask_64 (lv_at hl 4 rfl) ?_
      refine lv_aload_n hx hb dX4_ask_66 rfl (lv_at hl 0 rfl) ?_
      refine va_get (D := G) (ci := 4) (v := .ref (a 4)) (C := RX4) (T := TX4) (N := 4) hx hb hts hin4 hown hK hP 0 rfl rfl 3 (by decide) fl_33 (fun _ h9 => h9) rfl dX4_ask_67 ?_
      refine kV (As := []) (rest := [.int (nI (k + 1)), .int (nI y), .int (nI x), .ref (a 0)]) ⟨hx, hb, hml, hown, hts⟩ (c_X2_size l G cB cI cZ tc a (nI g) (nI r) rn lv lk ss rw sg od aw tb md ql dr n) (cwV 0 hts gX4_ask_X2_size rfl rfl rfl (by decide +kernel) ⟨by decide, by decide⟩) hK hZ hA hP hD hS 4 2 rfl rfl rfl hl.1 rfl (Nat.le_of_ble_eq_true rfl) dX4_ask_70 ⟨Nat.zero_le _, Nat.zero_le _⟩ (fun v w' H locs hp hP hD hS => ?_)
      obtain ⟨rfl, rfl⟩ := hp
      have hP : va_P G vwCl (wd a cB cI cZ (nI g) rn lv (nI r) lk ss rw sg (nI n) od aw tb md ql dr) H := hP
      have hD : va_D A (wd a cB cI cZ (nI g) rn lv (nI r) lk ss rw sg (nI n) od aw tb md ql dr) := hD
      refine W.eq (g2 := F0 m 73 ls [.int (nI n), .int (nI (k + 1)), .int (nI y), .int (nI x), .ref (a 0)]) rfl ?_
      refine kV (As := [.int (nI x), .int (nI y), .int (nI (k + 1)), .int (nI n)]) (rest := []) ⟨hx, hb, hml, hown, hts⟩ (c_X4_inTheWay l G cB cI cZ tc a rn lv lk ss rw sg od aw tb md ql dr g r n x y (k + 1) n hx6 hy8 (by omega) hn6 hI0) (cwV 4 hts gX4_ask_X4_inTheWay rfl rfl rfl (by decide +kernel) ⟨by decide, by decide⟩) hK hZ hA hP hD hS 0 4 rfl rfl rfl hl.1 rfl (Nat.le_of_ble_eq_true rfl) dX4_ask_73 ⟨Nat.zero_le _, Nat.zero_le _⟩ (fun v w' H locs hp hP hD hS => ?_)
      obtain ⟨rfl, rfl⟩ := hp
      have hP : va_P G vwCl (wd a cB cI cZ (nI g) rn lv (nI r) lk ss rw sg (nI n) od aw tb md ql dr) H := hP
      have hD : va_D A (wd a cB cI cZ (nI g) rn lv (nI r) lk ss rw sg (nI n) od aw tb md ql dr) := hD
      refine W.eq (g2 := F0 m 76 ls [.int (px_way n lv od aw tb md dr x y (k + 1) n)]) rfl ?_
      refine lv_istore (lv' := [(5, .int (px_way n lv od aw tb md dr x y (k + 1) n)), (0, .ref (a 0)), (1, .int (nI x)), (2, .int (nI z)), (3, .int (nI y)), (4, .int (nI (k + 1)))]) hx hb dX4_ask_76 hl (by decide) rfl (fun ls hl => ?_)
      refine lv_iload hx hb dX4_ask_78 (lv_at hl 0 rfl) ?_
      refine lv_if_ne (tgt := 97) hx hb dX4_ask_80 (by decide) (fun c_80 => ?_) (fun c_80 => ?_)
      · refine lv_aload_n hx hb dX4_ask_97 rfl (lv_at hl 1 rfl) ?_
        refine lv_iload_n hx hb dX4_ask_98 rfl (lv_at hl 2 rfl) ?_
        refine lv_iload hx hb dX4_ask_99 (lv_at hl 0 rfl) ?_
        refine kV (As := [.int (nI x), .int (px_way n lv od aw tb md dr x y (k + 1) n)]) (rest := []) ⟨hx, hb, hml, hown, hts⟩ (c_X4_closesRing l G cB cI cZ tc a rn lv lk ss rw sg od aw tb md ql dr g r n (nI x) (px_way n lv od aw tb md dr x y (k + 1) n) hI0) (cwV 2 hts gX4_ask_X4_closesRing rfl rfl rfl (by decide +kernel) ⟨by decide, by decide⟩) hK hZ hA hP hD hS 0 4 rfl rfl rfl hl.1 rfl (Nat.le_of_ble_eq_true rfl) dX4_ask_101 ⟨Nat.zero_le _, Nat.zero_le _⟩ (fun v w' H locs hp hP hD hS => ?_)
        obtain ⟨rfl, rfl⟩ := hp
        have hP : va_P G vwCl (wd a cB cI cZ (nI g) rn lv (nI r) lk ss rw sg (nI n) od aw tb md ql dr) H := hP
        have hD : va_D A (wd a cB cI cZ (nI g) rn lv (nI r) lk ss rw sg (nI n) od aw tb md ql dr) := hD
        refine W.eq (g2 := F0 m 104 ls [.int (fw_b (px_cr (px_wo g n rn lv od aw tb md dr) (nI x) (px_way n lv od aw tb md dr x y (k + 1) n)))]) rfl ?_
        refine lv_if_eq (tgt := 109) hx hb dX4_ask_104 (by decide) (fun c_104 => ?_) (fun c_104 => ?_)
        · have c_104 := fw_b0.mp c_104
          refine lv_aload_n hx hb dX4_ask_109 rfl (lv_at hl 1 rfl) ?_
          refine va_get (D := G) (ci := 4) (v := .ref (a 4)) (C := RX4) (T := TX4) (N := 4) hx hb hts hin4 hown hK hP 0 rfl rfl 3 (by decide) fl_33 (fun _ h9 => h9) rfl dX4_ask_110 ?_
          refine lv_iload_n hx hb dX4_ask_113 rfl (lv_at hl 2 rfl) ?_
          refine lv_iload_n hx hb dX4_ask_114 rfl (lv_at hl 3 rfl) ?_
          refine lv_iload_n hx hb dX4_ask_115 rfl (lv_at hl 4 rfl) ?_
          refine lv_iload hx hb dX4_ask_116 (lv_at hl 5 rfl) ?_
          refine kV (As := [.int (nI x), .int (nI z), .int (nI y), .int (nI (k + 1))]) (rest := []) ⟨hx, hb, hml, hown, hts⟩ (c_X2_addForTable l G cB cI cZ tc a (nI g) (nI r) rn lv lk ss rw sg od aw tb md ql dr n x (nI z) (nI y) (nI (k + 1)) (hn c_39) hx6) (cwV 4 hts gX4_ask_X2_addForTable rfl rfl rfl (by decide +kernel) ⟨by decide, by decide⟩) hK hZ hA hP hD hS 4 2 rfl rfl rfl hl.1 rfl (Nat.le_of_ble_eq_true rfl) dX4_ask_118 ⟨Nat.zero_le _, Nat.zero_le _⟩ (fun v w' H locs hp hP hD hS => ?_)
          obtain ⟨rfl, rfl⟩ := hp
          have hP : va_P G vwCl (wd a cB cI cZ (nI g) rn lv (nI r) lk ss rw sg (nI (n + 1)) (upd od n (nI x)) (upd aw x 0) (upd tb x (nI y)) (upd md x (nI (k + 1))) (upd ql x (nI z)) (upd dr x 0)) H := hP
          have hD : va_D A (wd a cB cI cZ (nI g) rn lv (nI r) lk ss rw sg (nI (n + 1)) (upd od n (nI x)) (upd aw x 0) (upd tb x (nI y)) (upd md x (nI (k + 1))) (upd ql x (nI z)) (upd dr x 0)) := hD
          refine W.eq (g2 := F0 m 121 ls []) rfl ?_
          refine lv_iconst (v := 1) hx hb dX4_ask_121 (by decide) ?_
          exact hri _ rfl 1 _ _ _ _ _ (rfl) (by rw [if_neg (show ¬ (px_pl n od (nI x)).isSome = true by rw [c_39]; decide), if_neg (Decidable.not_not.mpr c_56), if_neg c_80, if_neg (show ¬ px_cr (px_wo g n rn lv od aw tb md dr) (nI x) (px_way n lv od aw tb md dr x y (k + 1) n) = true by rw [c_104]; decide)]; exact ⟨rfl, rfl⟩) hP hD hS dX4_ask_122
        · have c_104 := fw_b1.mp c_104
          refine lv_iconst (v := 2) hx hb dX4_ask_107 (by decide) ?_
          exact hri _ rfl 2 _ _ _ _ _ (rfl) (by rw [if_neg (show ¬ (px_pl n od (nI x)).isSome = true by rw [c_39]; decide), if_neg (Decidable.not_not.mpr c_56), if_neg c_80, if_pos c_104]; exact ⟨rfl, rfl⟩) hP hD hS dX4_ask_108
      · refine lv_aload_n hx hb dX4_ask_83 rfl (lv_at hl 1 rfl) ?_
        refine va_get (D := G) (ci := 4) (v := .ref (a 2)) (C := RX4) (T := TX4) (N := 4) hx hb hts hin4 hown hK hP 0 rfl rfl 1 (by decide) fl_19 (fun _ h9 => h9) rfl dX4_ask_84 ?_
        refine lv_iload_n hx hb dX4_ask_87 rfl (lv_at hl 2 rfl) ?_
        refine lv_iload_n hx hb dX4_ask_88 rfl (lv_at hl 3 rfl) ?_
        refine lv_iload_n hx hb dX4_ask_89 rfl (lv_at hl 4 rfl) ?_
        refine lv_iload hx hb dX4_ask_90 (lv_at hl 5 rfl) ?_
        refine kV (As := [.int (nI x), .int (nI z), .int (nI y), .int (nI (k + 1))]) (rest := []) ⟨hx, hb, hml, hown, hts⟩ (c_X0_take l G cB cI cZ tc a (nI g) (nI r) (nI n) rn lv lk ss rw sg od aw tb md ql dr x y k z hx6 hy8 hk8 hz8) (cwV 4 hts gX4_ask_X0_take rfl rfl rfl (by decide +kernel) ⟨by decide, by decide⟩) hK hZ hA hP hD hS 2 0 rfl rfl rfl hl.1 rfl (Nat.le_of_ble_eq_true rfl) dX4_ask_92 ⟨Nat.zero_le _, Nat.zero_le _⟩ (fun v w' H locs hp hP hD hS => ?_)
        obtain ⟨rfl, rfl⟩ := hp
        have hP : va_P G vwCl (wd a cB cI cZ (nI g) rn (upd lv (64 * x + 8 * y + k) (nI z)) (nI r) lk ss rw sg (nI n) od aw tb md ql dr) H := hP
        have hD : va_D A (wd a cB cI cZ (nI g) rn (upd lv (64 * x + 8 * y + k) (nI z)) (nI r) lk ss rw sg (nI n) od aw tb md ql dr) := hD
        refine W.eq (g2 := F0 m 95 ls []) rfl ?_
        refine lv_iconst (v := 0) hx hb dX4_ask_95 (by decide) ?_
        exact hri _ rfl 0 _ _ _ _ _ (rfl) (by rw [if_neg (show ¬ (px_pl n od (nI x)).isSome = true by rw [c_39]; decide), if_neg (Decidable.not_not.mpr c_56), if_pos c_80]; exact ⟨rfl, rfl⟩) hP hD hS dX4_ask_96
    · refine lv_iconst (v := 0) hx hb dX4_ask_59 (by decide) ?_
      exact hri _ rfl 0 _ _ _ _ _ (rfl) (by rw [if_neg (show ¬ (px_pl n od (nI x)).isSome = true by rw [c_39]; decide), if_pos c_56]; exact ⟨rfl, rfl⟩) hP hD hS dX4_ask_60
  · have c_39 := fw_b1.mp c_39
    refine lv_iconst (v := (-1)) hx hb dX4_ask_42 (by decide) ?_
    exact hri _ rfl (-1) _ _ _ _ _ (rfl) (by rw [if_pos c_39]; exact ⟨rfl, rfl⟩) hP hD hS dX4_ask_43

abbrev rmX4_lock : Room := { frames := 2, cells := 0, slots := 0, locals := 48 }
set_option maxHeartbeats 4000000 in
set_option maxRecDepth 100000 in
theorem c_lock_no (l : Launch) (G : va_G) (cB cI cZ : ClassId) (tc : Nat) (a : Nat → Nat) (rn lv lk ss rw sg od aw tb md ql dr : Nat → Int32) (g : Nat) (r : Nat) (n : Nat) (x1 : Int32) (x2 : Int32) (x3 : Int32) (hg : g < 4000) (h : (!decide (px_run g rn x1 = -1) && px_isR x2 && !decide (x3 < 1) && decide (x3 ≤ 2)) = false) : KC l yX4_lock wsX4_lock rmX4_lock G [(cB, .byte), (cI, .int), (cZ, .boolean)] tc [.ref (a 0), .int x1, .int x2, .int x3] (wd a cB cI cZ (nI g) rn lv (nI r) lk ss rw sg (nI n) od aw tb md ql dr) (fun v w' => v = some (.int (-1)) ∧ w' = (wd a cB cI cZ (nI g) rn lv (nI r) lk ss rw sg (nI n) od aw tb md ql dr)) := by
  refine KC.of (cc := cX4_lock) (maxL := 6) (ret := some .int) (by decide) rfl (Nat.le_of_ble_eq_true rfl) ?_
  intro p e s m below meth c args A Q ls hx hb hml hown hts hK hZ hA hP hD hS hl hri hrv
  have hown : s.vm.findClass RX4 = some m.cls := hown
  have hl : lv_has ls 6 [(0, .ref (a 0)), (1, .int x1), (2, .int x2), (3, .int x3)] := hl
  have fl_10 := hts (.fieldLink RX4 10 "LockDesk" "numbers" "LLockDesk$Numbers;") (by decide +kernel)
  have fl_26 := hts (.fieldLink RX4 26 "LockDesk" "rowLocks" "LLockDesk$RowLocks;") (by decide +kernel)
  have fl_33 := hts (.fieldLink RX4 33 "LockDesk" "queue" "LLockDesk$Queue;") (by decide +kernel)
  have hin4 : ∀ w ∈ wsX40, w ∈ wsX4_lock := by decide +kernel
  refine lv_aload_n hx hb dX4_lock_0 rfl (lv_at hl 0 rfl) ?_
  refine va_get (D := G) (ci := 4) (v := .ref (a 1)) (C := RX4) (T := TX4) (N := 4) hx hb hts hin4 hown hK hP 0 rfl rfl 0 (by decide) fl_10 (fun _ h9 => h9) rfl dX4_lock_1 ?_
  refine lv_iload_n hx hb dX4_lock_4 rfl (lv_at hl 1 rfl) ?_
  refine kV (As := [.int x1]) (rest := []) ⟨hx, hb, hml, hown, hts⟩ (c_X1_runnerOf l G cB cI cZ tc a (nI r) (nI n) rn lv lk ss rw sg od aw tb md ql dr g x1 hg) (cwV 1 hts gX4_lock_X1_runnerOf rfl rfl rfl (by decide +kernel) ⟨by decide, by decide⟩) hK hZ hA hP hD hS 1 1 rfl rfl rfl hl.1 rfl (Nat.le_of_ble_eq_true rfl) dX4_lock_5 ⟨Nat.zero_le _, Nat.zero_le _⟩ (fun v w' H locs hp hP hD hS => ?_)
  obtain ⟨rfl, rfl⟩ := hp
  have hP : va_P G vwCl (wd a cB cI cZ (nI g) rn lv (nI r) lk ss rw sg (nI n) od aw tb md ql dr) H := hP
  have hD : va_D A (wd a cB cI cZ (nI g) rn lv (nI r) lk ss rw sg (nI n) od aw tb md ql dr) := hD
  refine W.eq (g2 := F0 m 8 ls [.int (px_run g rn x1)]) rfl ?_
  refine lv_istore (lv' := [(4, .int (px_run g rn x1)), (0, .ref (a 0)), (1, .int x1), (2, .int x2), (3, .int x3)]) hx hb dX4_lock_8 hl (by decide) rfl (fun ls hl => ?_)
  refine lv_iload hx hb dX4_lock_10 (lv_at hl 0 rfl) ?_
  refine lv_iconst (v := (-1)) hx hb dX4_lock_12 (by decide) ?_
  refine lv_icmp_eq (tgt := 33) hx hb dX4_lock_13 (by decide) (fun c_13 => ?_) (fun c_13 => ?_)
  · refine lv_iconst (v := (-1)) hx hb dX4_lock_33 (by decide) ?_
    exact hri _ rfl (-1) _ _ _ _ _ (rfl) (⟨rfl, rfl⟩) hP hD hS dX4_lock_34
  · refine lv_iload_n hx hb dX4_lock_16 rfl (lv_at hl 3 rfl) ?_
    refine kS (As := [.int x2]) (rest := []) ⟨hx, hb, hml, hown, hts⟩ (c_X4_isRow l G [(cB, .byte), (cI, .int), (cZ, .boolean)] tc (wd a cB cI cZ (nI g) rn lv (nI r) lk ss rw sg (nI n) od aw tb md ql dr) x2) (va_cwS 1 hts gX4_lock_X4_isRow rfl rfl rfl (by decide +kernel) ⟨by decide, by decide⟩) hK hZ hA hP hD hS rfl hl.1 rfl (Nat.le_of_ble_eq_true rfl) dX4_lock_17 ⟨Nat.zero_le _, Nat.zero_le _⟩ (fun v w' H locs hp hP hD hS => ?_)
    obtain ⟨rfl, rfl⟩ := hp
    have hP : va_P G vwCl (wd a cB cI cZ (nI g) rn lv (nI r) lk ss rw sg (nI n) od aw tb md ql dr) H := hP
    have hD : va_D A (wd a cB cI cZ (nI g) rn lv (nI r) lk ss rw sg (nI n) od aw tb md ql dr) := hD
    refine W.eq (g2 := F0 m 20 ls [.int (fw_b (px_isR x2))]) rfl ?_
    refine lv_if_eq (tgt := 33) hx hb dX4_lock_20 (by decide) (fun c_20 => ?_) (fun c_20 => ?_)
    · have c_20 := fw_b0.mp c_20
      refine lv_iconst (v := (-1)) hx hb dX4_lock_33 (by decide) ?_
      exact hri _ rfl (-1) _ _ _ _ _ (rfl) (⟨rfl, rfl⟩) hP hD hS dX4_lock_34
    · have c_20 := fw_b1.mp c_20
      refine lv_iload_n hx hb dX4_lock_23 rfl (lv_at hl 4 rfl) ?_
      refine lv_iconst (v := 1) hx hb dX4_lock_24 (by decide) ?_
      refine lv_icmp_lt (tgt := 33) hx hb dX4_lock_25 (by decide) (fun c_25 => ?_) (fun c_25 => ?_)
      · refine lv_iconst (v := (-1)) hx hb dX4_lock_33 (by decide) ?_
        exact hri _ rfl (-1) _ _ _ _ _ (rfl) (⟨rfl, rfl⟩) hP hD hS dX4_lock_34
      · refine lv_iload_n hx hb dX4_lock_28 rfl (lv_at hl 4 rfl) ?_
        refine lv_iconst (v := 2) hx hb dX4_lock_29 (by decide) ?_
        refine lv_icmp_le (tgt := 35) hx hb dX4_lock_30 (by decide) (fun c_30 => False.elim (by simp [c_13, c_20, c_25, c_30] at h)) (fun c_30 => ?_)
        refine lv_iconst (v := (-1)) hx hb dX4_lock_33 (by decide) ?_
        exact hri _ rfl (-1) _ _ _ _ _ (rfl) (⟨rfl, rfl⟩) hP hD hS dX4_lock_34

set_option maxHeartbeats 4000000 in
set_option maxRecDepth 100000 in
theorem c_lock_ok (l : Launch) (G : va_G) (cB cI cZ : ClassId) (tc : Nat) (a : Nat → Nat) (rn lv lk ss rw sg od aw tb md ql dr : Nat → Int32) (g : Nat) (r : Nat) (n : Nat) (k : Nat) (x2 : Int32) (x3 : Int32) (hg : g < 4000) (hn6 : n ≤ 6) (hr5 : r < 512) (hk1 : 1 ≤ k) (hk2 : k ≤ g) (h : ¬ rn k = -1) (hrow : px_isR x2 = true) (h1 : ¬ x3 < 1) (h2 : x3 ≤ 2) : KC l yX4_lock wsX4_lock rmX4_lock G [(cB, .byte), (cI, .int), (cZ, .boolean)] tc [.ref (a 0), .int (nI k), .int x2, .int x3] (wd a cB cI cZ (nI g) rn lv (nI r) lk ss rw sg (nI n) od aw tb md ql dr) (fun v w' => if (px_pl n od (rn k)).isSome = true then v = some (.int (-1)) ∧ w' = (wd a cB cI cZ (nI g) rn lv (nI r) lk ss rw sg (nI n) od aw tb md ql dr) else if px_any (px_sfP ss rw sg (rn k) x2 x3) r = true then v = some (.int 0) ∧ w' = (wd a cB cI cZ (nI g) rn lv (nI r) lk ss rw sg (nI n) od aw tb md ql dr) else if ¬ px_lc r lk ss rw sg (rn k) x2 x3 = -1 then v = some (.int (px_lc r lk ss rw sg (rn k) x2 x3)) ∧ w' = (wd a cB cI cZ (nI g) rn lv (nI r) lk ss rw sg (nI n) od aw tb md ql dr) else v = some (.int 0) ∧ ((∃ i, i < r ∧ px_foundAt lk rw (nI k) x2 i ∧ w' = (wd a cB cI cZ (nI g) rn lv (nI r) lk ss rw (upd sg i x3) (nI n) od aw tb md ql dr)) ∨ (∃ p, p ≤ r ∧ px_placeAt r lk rw (nI k) x2 p ∧ w' = (wd a cB cI cZ (nI g) rn lv (nI (r + 1)) ((px_put p (nI k) (rn k) x2 x3 (px_sh r p (lk, ss, rw, sg))).1) ((px_put p (nI k) (rn k) x2 x3 (px_sh r p (lk, ss, rw, sg))).2.1) ((px_put p (nI k) (rn k) x2 x3 (px_sh r p (lk, ss, rw, sg))).2.2.1) ((px_put p (nI k) (rn k) x2 x3 (px_sh r p (lk, ss, rw, sg))).2.2.2) (nI n) od aw tb md ql dr)))) := by
  refine KC.of (cc := cX4_lock) (maxL := 6) (ret := some .int) (by decide) rfl (Nat.le_of_ble_eq_true rfl) ?_
  intro p e s m below meth c args A Q ls hx hb hml hown hts hK hZ hA hP hD hS hl hri hrv
  have hown : s.vm.findClass RX4 = some m.cls := hown
  have hl : lv_has ls 6 [(0, .ref (a 0)), (1, .int (nI k)), (2, .int x2), (3, .int x3)] := hl
  have fl_10 := hts (.fieldLink RX4 10 "LockDesk" "numbers" "LLockDesk$Numbers;") (by decide +kernel)
  have fl_26 := hts (.fieldLink RX4 26 "LockDesk" "rowLocks" "LLockDesk$RowLocks;") (by decide +kernel)
  have fl_33 := hts (.fieldLink RX4 33 "LockDesk" "queue" "LLockDesk$Queue;") (by decide +kernel)
  have hin4 : ∀ w ∈ wsX40, w ∈ wsX4_lock := by decide +kernel
  refine lv_aload_n hx hb dX4_lock_0 rfl (lv_at hl 0 rfl) ?_
  refine va_get (D := G) (ci := 4) (v := .ref (a 1)) (C := RX4) (T := TX4) (N := 4) hx hb hts hin4 hown hK hP 0 rfl rfl 0 (by decide) fl_10 (fun _ h9 => h9) rfl dX4_lock_1 ?_
  refine lv_iload_n hx hb dX4_lock_4 rfl (lv_at hl 1 rfl) ?_
  refine kV (As := [.int (nI k)]) (rest := []) ⟨hx, hb, hml, hown, hts⟩ (c_X1_runnerOf l G cB cI cZ tc a (nI r) (nI n) rn lv lk ss rw sg od aw tb md ql dr g (nI k) hg) (cwV 1 hts gX4_lock_X1_runnerOf rfl rfl rfl (by decide +kernel) ⟨by decide, by decide⟩) hK hZ hA hP hD hS 1 1 rfl rfl rfl hl.1 rfl (Nat.le_of_ble_eq_true rfl) dX4_lock_5 ⟨Nat.zero_le _, Nat.zero_le _⟩ (fun v w' H locs hp hP hD hS => ?_)
  obtain ⟨rfl, rfl⟩ := hp
  rw [px_run_nI (by omega) hk1 hk2]
  have hP : va_P G vwCl (wd a cB cI cZ (nI g) rn lv (nI r) lk ss rw sg (nI n) od aw tb md ql dr) H := hP
  have hD : va_D A (wd a cB cI cZ (nI g) rn lv (nI r) lk ss rw sg (nI n) od aw tb md ql dr) := hD
  refine W.eq (g2 := F0 m 8 ls [.int (rn k)]) rfl ?_
  refine lv_istore (lv' := [(4, .int (rn k)), (0, .ref (a 0)), (1, .int (nI k)), (2, .int x2), (3, .int x3)]) hx hb dX4_lock_8 hl (by decide) rfl (fun ls hl => ?_)
  refine lv_iload hx hb dX4_lock_10 (lv_at hl 0 rfl) ?_
  refine lv_iconst (v := (-1)) hx hb dX4_lock_12 (by decide) ?_
  refine lv_icmp_eq (tgt := 33) hx hb dX4_lock_13 (by decide) (fun c_13 => False.elim (h c_13)) (fun c_13 => ?_)
  refine lv_iload_n hx hb dX4_lock_16 rfl (lv_at hl 3 rfl) ?_
  refine kS (As := [.int x2]) (rest := []) ⟨hx, hb, hml, hown, hts⟩ (c_X4_isRow l G [(cB, .byte), (cI, .int), (cZ, .boolean)] tc (wd a cB cI cZ (nI g) rn lv (nI r) lk ss rw sg (nI n) od aw tb md ql dr) x2) (va_cwS 1 hts gX4_lock_X4_isRow rfl rfl rfl (by decide +kernel) ⟨by decide, by decide⟩) hK hZ hA hP hD hS rfl hl.1 rfl (Nat.le_of_ble_eq_true rfl) dX4_lock_17 ⟨Nat.zero_le _, Nat.zero_le _⟩ (fun v w' H locs hp hP hD hS => ?_)
  obtain ⟨rfl, rfl⟩ := hp
  have hP : va_P G vwCl (wd a cB cI cZ (nI g) rn lv (nI r) lk ss rw sg (nI n) od aw tb md ql dr) H := hP
  have hD : va_D A (wd a cB cI cZ (nI g) rn lv (nI r) lk ss rw sg (nI n) od aw tb md ql dr) := hD
  refine W.eq (g2 := F0 m 20 ls [.int (fw_b (px_isR x2))]) rfl ?_
  refine lv_if_eq (tgt := 33) hx hb dX4_lock_20 (by decide) (fun c_20 => False.elim (by rw [hrow] at c_20; exact absurd c_20 (by decide))) (fun c_20 => ?_)
  have c_20 := fw_b1.mp c_20
  refine lv_iload_n hx hb dX4_lock_23 rfl (lv_at hl 4 rfl) ?_
  refine lv_iconst (v := 1) hx hb dX4_lock_24 (by decide) ?_
  refine lv_icmp_lt (tgt := 33) hx hb dX4_lock_25 (by decide) (fun c_25 => False.elim (h1 c_25)) (fun c_25 => ?_)
  refine lv_iload_n hx hb dX4_lock_28 rfl (lv_at hl 4 rfl) ?_
  refine lv_iconst (v := 2) hx hb dX4_lock_29 (by decide) ?_
  refine lv_icmp_le (tgt := 35) hx hb dX4_lock_30 (by decide) (fun c_30 => ?_) (fun c_30 => False.elim (c_30 h2))
  refine lv_aload_n hx hb dX4_lock_35 rfl (lv_at hl 1 rfl) ?_
  refine va_get (D := G) (ci := 4) (v := .ref (a 4)) (C := RX4) (T := TX4) (N := 4) hx hb hts hin4 hown hK hP 0 rfl rfl 3 (by decide) fl_33 (fun _ h9 => h9) rfl dX4_lock_36 ?_
  refine lv_iload hx hb dX4_lock_39 (lv_at hl 0 rfl) ?_
  refine kV (As := [.int (rn k)]) (rest := []) ⟨hx, hb, hml, hown, hts⟩ (c_X2_contains l G cB cI cZ tc a (nI g) (nI r) rn lv lk ss rw sg od aw tb md ql dr n (rn k) hn6) (cwV 1 hts gX4_lock_X2_contains rfl rfl rfl (by decide +kernel) ⟨by decide, by decide⟩) hK hZ hA hP hD hS 4 2 rfl rfl rfl hl.1 rfl (Nat.le_of_ble_eq_true rfl) dX4_lock_41 ⟨Nat.zero_le _, Nat.zero_le _⟩ (fun v w' H locs hp hP hD hS => ?_)
  obtain ⟨rfl, rfl⟩ := hp
  have hP : va_P G vwCl (wd a cB cI cZ (nI g) rn lv (nI r) lk ss rw sg (nI n) od aw tb md ql dr) H := hP
  have hD : va_D A (wd a cB cI cZ (nI g) rn lv (nI r) lk ss rw sg (nI n) od aw tb md ql dr) := hD
  refine W.eq (g2 := F0 m 44 ls [.int (fw_b (px_pl n od (rn k)).isSome)]) rfl ?_
  refine lv_if_eq (tgt := 49) hx hb dX4_lock_44 (by decide) (fun c_44 => ?_) (fun c_44 => ?_)
  · have c_44 := fw_b0.mp c_44
    refine lv_aload_n hx hb dX4_lock_49 rfl (lv_at hl 1 rfl) ?_
    refine va_get (D := G) (ci := 4) (v := .ref (a 3)) (C := RX4) (T := TX4) (N := 4) hx hb hts hin4 hown hK hP 0 rfl rfl 2 (by decide) fl_26 (fun _ h9 => h9) rfl dX4_lock_50 ?_
    refine lv_iload hx hb dX4_lock_53 (lv_at hl 0 rfl) ?_
    refine lv_iload_n hx hb dX4_lock_55 rfl (lv_at hl 3 rfl) ?_
    refine lv_iload_n hx hb dX4_lock_56 rfl (lv_at hl 4 rfl) ?_
    refine kV (As := [.int (rn k), .int x2, .int x3]) (rest := []) ⟨hx, hb, hml, hown, hts⟩ (c_X3_suffices l G cB cI cZ tc a (nI g) (nI n) rn lv lk ss rw sg od aw tb md ql dr r (rn k) x2 x3 (by omega)) (cwV 3 hts gX4_lock_X3_suffices rfl rfl rfl (by decide +kernel) ⟨by decide, by decide⟩) hK hZ hA hP hD hS 3 3 rfl rfl rfl hl.1 rfl (Nat.le_of_ble_eq_true rfl) dX4_lock_57 ⟨Nat.zero_le _, Nat.zero_le _⟩ (fun v w' H locs hp hP hD hS => ?_)
    obtain ⟨rfl, rfl⟩ := hp
    have hP : va_P G vwCl (wd a cB cI cZ (nI g) rn lv (nI r) lk ss rw sg (nI n) od aw tb md ql dr) H := hP
    have hD : va_D A (wd a cB cI cZ (nI g) rn lv (nI r) lk ss rw sg (nI n) od aw tb md ql dr) := hD
    refine W.eq (g2 := F0 m 60 ls [.int (fw_b (px_any (px_sfP ss rw sg (rn k) x2 x3) r))]) rfl ?_
    refine lv_if_eq (tgt := 65) hx hb dX4_lock_60 (by decide) (fun c_60 => ?_) (fun c_60 => ?_)
    · have c_60 := fw_b0.mp c_60
      refine lv_aload_n hx hb dX4_lock_65 rfl (lv_at hl 1 rfl) ?_
      refine va_get (D := G) (ci := 4) (v := .ref (a 3)) (C := RX4) (T := TX4) (N := 4) hx hb hts hin4 hown hK hP 0 rfl rfl 2 (by decide) fl_26 (fun _ h9 => h9) rfl dX4_lock_66 ?_
      refine lv_iload hx hb dX4_lock_69 (lv_at hl 0 rfl) ?_
      refine lv_iload_n hx hb dX4_lock_71 rfl (lv_at hl 3 rfl) ?_
      refine lv_iload_n hx hb dX4_lock_72 rfl (lv_at hl 4 rfl) ?_
      refine kV (As := [.int (rn k), .int x2, .int x3]) (rest := []) ⟨hx, hb, hml, hown, hts⟩ (c_X3_leastInConflict l G cB cI cZ tc a (nI g) (nI n) rn lv lk ss rw sg od aw tb md ql dr r (rn k) x2 x3 (by omega)) (cwV 3 hts gX4_lock_X3_leastInConflict rfl rfl rfl (by decide +kernel) ⟨by decide, by decide⟩) hK hZ hA hP hD hS 3 3 rfl rfl rfl hl.1 rfl (Nat.le_of_ble_eq_true rfl) dX4_lock_73 ⟨Nat.zero_le _, Nat.zero_le _⟩ (fun v w' H locs hp hP hD hS => ?_)
      obtain ⟨rfl, rfl⟩ := hp
      have hP : va_P G vwCl (wd a cB cI cZ (nI g) rn lv (nI r) lk ss rw sg (nI n) od aw tb md ql dr) H := hP
      have hD : va_D A (wd a cB cI cZ (nI g) rn lv (nI r) lk ss rw sg (nI n) od aw tb md ql dr) := hD
      refine W.eq (g2 := F0 m 76 ls [.int (px_lc r lk ss rw sg (rn k) x2 x3)]) rfl ?_
      refine lv_istore (lv' := [(5, .int (px_lc r lk ss rw sg (rn k) x2 x3)), (4, .int (rn k)), (0, .ref (a 0)), (1, .int (nI k)), (2, .int x2), (3, .int x3)]) hx hb dX4_lock_76 hl (by decide) rfl (fun ls hl => ?_)
      refine lv_iload hx hb dX4_lock_78 (lv_at hl 0 rfl) ?_
      refine lv_iconst (v := (-1)) hx hb dX4_lock_80 (by decide) ?_
      refine lv_icmp_eq (tgt := 87) hx hb dX4_lock_81 (by decide) (fun c_81 => ?_) (fun c_81 => ?_)
      · refine lv_aload_n hx hb dX4_lock_87 rfl (lv_at hl 2 rfl) ?_
        refine va_get (D := G) (ci := 4) (v := .ref (a 3)) (C := RX4) (T := TX4) (N := 4) hx hb hts hin4 hown hK hP 0 rfl rfl 2 (by decide) fl_26 (fun _ h9 => h9) rfl dX4_lock_88 ?_
        refine lv_iload_n hx hb dX4_lock_91 rfl (lv_at hl 3 rfl) ?_
        refine lv_iload hx hb dX4_lock_92 (lv_at hl 1 rfl) ?_
        refine lv_iload_n hx hb dX4_lock_94 rfl (lv_at hl 4 rfl) ?_
        refine lv_iload_n hx hb dX4_lock_95 rfl (lv_at hl 5 rfl) ?_
        refine kV (As := [.int (nI k), .int (rn k), .int x2, .int x3]) (rest := []) ⟨hx, hb, hml, hown, hts⟩ (c_X3_note l G cB cI cZ tc a (nI g) (nI n) rn lv lk ss rw sg od aw tb md ql dr r (nI k) (rn k) x2 x3 hr5) (cwV 4 hts gX4_lock_X3_note rfl rfl rfl (by decide +kernel) ⟨by decide, by decide⟩) hK hZ hA hP hD hS 3 3 rfl rfl rfl hl.1 rfl (Nat.le_of_ble_eq_true rfl) dX4_lock_96 ⟨Nat.zero_le _, Nat.zero_le _⟩ (fun v w' H locs hp hP hD hS => ?_)
        obtain ⟨rfl, hnote⟩ := hp
        refine W.eq (g2 := F0 m 99 ls [.int 1]) rfl ?_
        refine lv_if_eq (tgt := 106) hx hb dX4_lock_99 (by decide) (fun c_99 => False.elim (absurd c_99 (by decide))) (fun c_99 => ?_)
        refine lv_iconst (v := 0) hx hb dX4_lock_102 (by decide) ?_
        refine lv_goto (tgt := 107) hx hb dX4_lock_103 (by decide) ?_
        exact hri _ rfl 0 _ _ _ _ _ (rfl) (by rw [if_neg (show ¬ (px_pl n od (rn k)).isSome = true by rw [c_44]; decide), if_neg (show ¬ px_any (px_sfP ss rw sg (rn k) x2 x3) r = true by rw [c_60]; decide), if_neg (Decidable.not_not.mpr c_81)]; exact ⟨rfl, hnote⟩) hP hD hS dX4_lock_107
      · refine lv_iload hx hb dX4_lock_84 (lv_at hl 0 rfl) ?_
        exact hri _ rfl (px_lc r lk ss rw sg (rn k) x2 x3) _ _ _ _ _ (rfl) (by rw [if_neg (show ¬ (px_pl n od (rn k)).isSome = true by rw [c_44]; decide), if_neg (show ¬ px_any (px_sfP ss rw sg (rn k) x2 x3) r = true by rw [c_60]; decide), if_pos c_81]; exact ⟨rfl, rfl⟩) hP hD hS dX4_lock_86
    · have c_60 := fw_b1.mp c_60
      refine lv_iconst (v := 0) hx hb dX4_lock_63 (by decide) ?_
      exact hri _ rfl 0 _ _ _ _ _ (rfl) (by rw [if_neg (show ¬ (px_pl n od (rn k)).isSome = true by rw [c_44]; decide), if_pos c_60]; exact ⟨rfl, rfl⟩) hP hD hS dX4_lock_64
  · have c_44 := fw_b1.mp c_44
    refine lv_iconst (v := (-1)) hx hb dX4_lock_47 (by decide) ?_
    exact hri _ rfl (-1) _ _ _ _ _ (rfl) (by rw [if_pos c_44]; exact ⟨rfl, rfl⟩) hP hD hS dX4_lock_48

abbrev rmX4_await : Room := { frames := 6, cells := 0, slots := 0, locals := 142 }
set_option maxHeartbeats 4000000 in
set_option maxRecDepth 100000 in
theorem c_await_no (l : Launch) (G : va_G) (cB cI cZ : ClassId) (tc : Nat) (a : Nat → Nat) (rn lv lk ss rw sg od aw tb md ql dr : Nat → Int32) (g : Nat) (r : Nat) (n : Nat) (x1 : Int32) (x2 : Int32) (hn6 : n ≤ 6) (h : (px_isS x1 && px_was g x2 && !(px_pl n od x1).isSome) = false) : KC l yX4_await wsX4_await rmX4_await G [(cB, .byte), (cI, .int), (cZ, .boolean)] tc [.ref (a 0), .int x1, .int x2] (wd a cB cI cZ (nI g) rn lv (nI r) lk ss rw sg (nI n) od aw tb md ql dr) (fun v w' => v = some (.int (-1)) ∧ w' = (wd a cB cI cZ (nI g) rn lv (nI r) lk ss rw sg (nI n) od aw tb md ql dr)) := by
  refine KC.of (cc := cX4_await) (maxL := 4) (ret := some .int) (by decide) rfl (Nat.le_of_ble_eq_true rfl) ?_
  intro p e s m below meth c args A Q ls hx hb hml hown hts hK hZ hA hP hD hS hl hri hrv
  have hown : s.vm.findClass RX4 = some m.cls := hown
  have hl : lv_has ls 4 [(0, .ref (a 0)), (1, .int x1), (2, .int x2)] := hl
  have fl_10 := hts (.fieldLink RX4 10 "LockDesk" "numbers" "LLockDesk$Numbers;") (by decide +kernel)
  have fl_33 := hts (.fieldLink RX4 33 "LockDesk" "queue" "LLockDesk$Queue;") (by decide +kernel)
  have hin4 : ∀ w ∈ wsX40, w ∈ wsX4_await := by decide +kernel
  refine lv_iload_n hx hb dX4_await_0 rfl (lv_at hl 1 rfl) ?_
  refine kS (As := [.int x1]) (rest := []) ⟨hx, hb, hml, hown, hts⟩ (c_X4_isSession l G [(cB, .byte), (cI, .int), (cZ, .boolean)] tc (wd a cB cI cZ (nI g) rn lv (nI r) lk ss rw sg (nI n) od aw tb md ql dr) x1) (va_cwS 1 hts gX4_await_X4_isSession rfl rfl rfl (by decide +kernel) ⟨by decide, by decide⟩) hK hZ hA hP hD hS rfl hl.1 rfl (Nat.le_of_ble_eq_true rfl) dX4_await_1 ⟨Nat.zero_le _, Nat.zero_le _⟩ (fun v w' H locs hp hP hD hS => ?_)
  obtain ⟨rfl, rfl⟩ := hp
  have hP : va_P G vwCl (wd a cB cI cZ (nI g) rn lv (nI r) lk ss rw sg (nI n) od aw tb md ql dr) H := hP
  have hD : va_D A (wd a cB cI cZ (nI g) rn lv (nI r) lk ss rw sg (nI n) od aw tb md ql dr) := hD
  refine W.eq (g2 := F0 m 4 ls [.int (fw_b (px_isS x1))]) rfl ?_
  refine lv_if_eq (tgt := 29) hx hb dX4_await_4 (by decide) (fun c_4 => ?_) (fun c_4 => ?_)
  · have c_4 := fw_b0.mp c_4
    refine lv_iconst (v := (-1)) hx hb dX4_await_29 (by decide) ?_
    exact hri _ rfl (-1) _ _ _ _ _ (rfl) (⟨rfl, rfl⟩) hP hD hS dX4_await_30
  · have c_4 := fw_b1.mp c_4
    refine lv_aload_n hx hb dX4_await_7 rfl (lv_at hl 0 rfl) ?_
    refine va_get (D := G) (ci := 4) (v := .ref (a 1)) (C := RX4) (T := TX4) (N := 4) hx hb hts hin4 hown hK hP 0 rfl rfl 0 (by decide) fl_10 (fun _ h9 => h9) rfl dX4_await_8 ?_
    refine lv_iload_n hx hb dX4_await_11 rfl (lv_at hl 2 rfl) ?_
    refine kV (As := [.int x2]) (rest := []) ⟨hx, hb, hml, hown, hts⟩ (c_X1_wasGiven l G cB cI cZ tc a (nI r) (nI n) rn lv lk ss rw sg od aw tb md ql dr g x2) (cwV 1 hts gX4_await_X1_wasGiven rfl rfl rfl (by decide +kernel) ⟨by decide, by decide⟩) hK hZ hA hP hD hS 1 1 rfl rfl rfl hl.1 rfl (Nat.le_of_ble_eq_true rfl) dX4_await_12 ⟨Nat.zero_le _, Nat.zero_le _⟩ (fun v w' H locs hp hP hD hS => ?_)
    obtain ⟨rfl, rfl⟩ := hp
    have hP : va_P G vwCl (wd a cB cI cZ (nI g) rn lv (nI r) lk ss rw sg (nI n) od aw tb md ql dr) H := hP
    have hD : va_D A (wd a cB cI cZ (nI g) rn lv (nI r) lk ss rw sg (nI n) od aw tb md ql dr) := hD
    refine W.eq (g2 := F0 m 15 ls [.int (fw_b (px_was g x2))]) rfl ?_
    refine lv_if_eq (tgt := 29) hx hb dX4_await_15 (by decide) (fun c_15 => ?_) (fun c_15 => ?_)
    · have c_15 := fw_b0.mp c_15
      refine lv_iconst (v := (-1)) hx hb dX4_await_29 (by decide) ?_
      exact hri _ rfl (-1) _ _ _ _ _ (rfl) (⟨rfl, rfl⟩) hP hD hS dX4_await_30
    · have c_15 := fw_b1.mp c_15
      refine lv_aload_n hx hb dX4_await_18 rfl (lv_at hl 0 rfl) ?_
      refine va_get (D := G) (ci := 4) (v := .ref (a 4)) (C := RX4) (T := TX4) (N := 4) hx hb hts hin4 hown hK hP 0 rfl rfl 3 (by decide) fl_33 (fun _ h9 => h9) rfl dX4_await_19 ?_
      refine lv_iload_n hx hb dX4_await_22 rfl (lv_at hl 1 rfl) ?_
      refine kV (As := [.int x1]) (rest := []) ⟨hx, hb, hml, hown, hts⟩ (c_X2_contains l G cB cI cZ tc a (nI g) (nI r) rn lv lk ss rw sg od aw tb md ql dr n x1 hn6) (cwV 1 hts gX4_await_X2_contains rfl rfl rfl (by decide +kernel) ⟨by decide, by decide⟩) hK hZ hA hP hD hS 4 2 rfl rfl rfl hl.1 rfl (Nat.le_of_ble_eq_true rfl) dX4_await_23 ⟨Nat.zero_le _, Nat.zero_le _⟩ (fun v w' H locs hp hP hD hS => ?_)
      obtain ⟨rfl, rfl⟩ := hp
      have hP : va_P G vwCl (wd a cB cI cZ (nI g) rn lv (nI r) lk ss rw sg (nI n) od aw tb md ql dr) H := hP
      have hD : va_D A (wd a cB cI cZ (nI g) rn lv (nI r) lk ss rw sg (nI n) od aw tb md ql dr) := hD
      refine W.eq (g2 := F0 m 26 ls [.int (fw_b (px_pl n od x1).isSome)]) rfl ?_
      refine lv_if_eq (tgt := 31) hx hb dX4_await_26 (by decide) (fun c_26 => False.elim (by have c_26 := fw_b0.mp c_26; simp [c_4, c_15, c_26] at h)) (fun c_26 => ?_)
      have c_26 := fw_b1.mp c_26
      refine lv_iconst (v := (-1)) hx hb dX4_await_29 (by decide) ?_
      exact hri _ rfl (-1) _ _ _ _ _ (rfl) (⟨rfl, rfl⟩) hP hD hS dX4_await_30

set_option maxHeartbeats 4000000 in
set_option maxRecDepth 100000 in
theorem c_await_ok (l : Launch) (G : va_G) (cB cI cZ : ClassId) (tc : Nat) (a : Nat → Nat) (rn lv lk ss rw sg od aw tb md ql dr : Nat → Int32) (g : Nat) (r : Nat) (n : Nat) (x : Nat) (k : Nat) (hx6 : x < 6) (hk1 : 1 ≤ k) (hk2 : k ≤ g) (hn : n < 6) (hno : (px_pl n od (nI x)).isSome = false) (hI : px_I g n od aw tb md ql dr) : KC l yX4_await wsX4_await rmX4_await G [(cB, .byte), (cI, .int), (cZ, .boolean)] tc [.ref (a 0), .int (nI x), .int (nI k)] (wd a cB cI cZ (nI g) rn lv (nI r) lk ss rw sg (nI n) od aw tb md ql dr) (fun v w' => if rn k = -1 then v = some (.int 0) ∧ w' = (wd a cB cI cZ (nI g) rn lv (nI r) lk ss rw sg (nI n) od aw tb md ql dr) else if px_cr (px_wo g n rn lv od aw tb md dr) (nI x) (1 <<< (rn k &&& 31)) = true then v = some (.int 2) ∧ w' = (wd a cB cI cZ (nI g) rn lv (nI r) lk ss rw sg (nI n) od aw tb md ql dr) else v = some (.int 1) ∧ w' = (wd a cB cI cZ (nI g) rn lv (nI r) lk ss rw sg (nI (n + 1)) (upd od n (nI x)) (upd aw x (nI k)) tb md ql dr)) := by
  refine KC.of (cc := cX4_await) (maxL := 4) (ret := some .int) (by decide) rfl (Nat.le_of_ble_eq_true rfl) ?_
  intro p e s m below meth c args A Q ls hx hb hml hown hts hK hZ hA hP hD hS hl hri hrv
  have hown : s.vm.findClass RX4 = some m.cls := hown
  have hl : lv_has ls 4 [(0, .ref (a 0)), (1, .int (nI x)), (2, .int (nI k))] := hl
  have fl_10 := hts (.fieldLink RX4 10 "LockDesk" "numbers" "LLockDesk$Numbers;") (by decide +kernel)
  have fl_33 := hts (.fieldLink RX4 33 "LockDesk" "queue" "LLockDesk$Queue;") (by decide +kernel)
  have hin4 : ∀ w ∈ wsX40, w ∈ wsX4_await := by decide +kernel
  have hI0 := hI
  obtain ⟨hg, hn6, hod, htb, hmd, hdr, hql, hmk⟩ := hI
  refine lv_iload_n hx hb dX4_await_0 rfl (lv_at hl 1 rfl) ?_
  refine kS (As := [.int (nI x)]) (rest := []) ⟨hx, hb, hml, hown, hts⟩ (c_X4_isSession l G [(cB, .byte), (cI, .int), (cZ, .boolean)] tc (wd a cB cI cZ (nI g) rn lv (nI r) lk ss rw sg (nI n) od aw tb md ql dr) (nI x)) (va_cwS 1 hts gX4_await_X4_isSession rfl rfl rfl (by decide +kernel) ⟨by decide, by decide⟩) hK hZ hA hP hD hS rfl hl.1 rfl (Nat.le_of_ble_eq_true rfl) dX4_await_1 ⟨Nat.zero_le _, Nat.zero_le _⟩ (fun v w' H locs hp hP hD hS => ?_)
  obtain ⟨rfl, rfl⟩ := hp
  have hP : va_P G vwCl (wd a cB cI cZ (nI g) rn lv (nI r) lk ss rw sg (nI n) od aw tb md ql dr) H := hP
  have hD : va_D A (wd a cB cI cZ (nI g) rn lv (nI r) lk ss rw sg (nI n) od aw tb md ql dr) := hD
  refine W.eq (g2 := F0 m 4 ls [.int (fw_b (px_isS (nI x)))]) rfl ?_
  refine lv_if_eq (tgt := 29) hx hb dX4_await_4 (by decide) (fun c_4 => False.elim (by rw [px_isS_nI x hx6] at c_4; exact absurd c_4 (by decide))) (fun c_4 => ?_)
  have c_4 := fw_b1.mp c_4
  refine lv_aload_n hx hb dX4_await_7 rfl (lv_at hl 0 rfl) ?_
  refine va_get (D := G) (ci := 4) (v := .ref (a 1)) (C := RX4) (T := TX4) (N := 4) hx hb hts hin4 hown hK hP 0 rfl rfl 0 (by decide) fl_10 (fun _ h9 => h9) rfl dX4_await_8 ?_
  refine lv_iload_n hx hb dX4_await_11 rfl (lv_at hl 2 rfl) ?_
  refine kV (As := [.int (nI k)]) (rest := []) ⟨hx, hb, hml, hown, hts⟩ (c_X1_wasGiven l G cB cI cZ tc a (nI r) (nI n) rn lv lk ss rw sg od aw tb md ql dr g (nI k)) (cwV 1 hts gX4_await_X1_wasGiven rfl rfl rfl (by decide +kernel) ⟨by decide, by decide⟩) hK hZ hA hP hD hS 1 1 rfl rfl rfl hl.1 rfl (Nat.le_of_ble_eq_true rfl) dX4_await_12 ⟨Nat.zero_le _, Nat.zero_le _⟩ (fun v w' H locs hp hP hD hS => ?_)
  obtain ⟨rfl, rfl⟩ := hp
  have hP : va_P G vwCl (wd a cB cI cZ (nI g) rn lv (nI r) lk ss rw sg (nI n) od aw tb md ql dr) H := hP
  have hD : va_D A (wd a cB cI cZ (nI g) rn lv (nI r) lk ss rw sg (nI n) od aw tb md ql dr) := hD
  refine W.eq (g2 := F0 m 15 ls [.int (fw_b (px_was g (nI k)))]) rfl ?_
  refine lv_if_eq (tgt := 29) hx hb dX4_await_15 (by decide) (fun c_15 => False.elim (by rw [px_was_nI (show g < 2 ^ 31 by omega) hk1 hk2] at c_15; exact absurd c_15 (by decide))) (fun c_15 => ?_)
  have c_15 := fw_b1.mp c_15
  refine lv_aload_n hx hb dX4_await_18 rfl (lv_at hl 0 rfl) ?_
  refine va_get (D := G) (ci := 4) (v := .ref (a 4)) (C := RX4) (T := TX4) (N := 4) hx hb hts hin4 hown hK hP 0 rfl rfl 3 (by decide) fl_33 (fun _ h9 => h9) rfl dX4_await_19 ?_
  refine lv_iload_n hx hb dX4_await_22 rfl (lv_at hl 1 rfl) ?_
  refine kV (As := [.int (nI x)]) (rest := []) ⟨hx, hb, hml, hown, hts⟩ (c_X2_contains l G cB cI cZ tc a (nI g) (nI r) rn lv lk ss rw sg od aw tb md ql dr n (nI x) hn6) (cwV 1 hts gX4_await_X2_contains rfl rfl rfl (by decide +kernel) ⟨by decide, by decide⟩) hK hZ hA hP hD hS 4 2 rfl rfl rfl hl.1 rfl (Nat.le_of_ble_eq_true rfl) dX4_await_23 ⟨Nat.zero_le _, Nat.zero_le _⟩ (fun v w' H locs hp hP hD hS => ?_)
  obtain ⟨rfl, rfl⟩ := hp
  have hP : va_P G vwCl (wd a cB cI cZ (nI g) rn lv (nI r) lk ss rw sg (nI n) od aw tb md ql dr) H := hP
  have hD : va_D A (wd a cB cI cZ (nI g) rn lv (nI r) lk ss rw sg (nI n) od aw tb md ql dr) := hD
  refine W.eq (g2 := F0 m 26 ls [.int (fw_b (px_pl n od (nI x)).isSome)]) rfl ?_
  refine lv_if_eq (tgt := 31) hx hb dX4_await_26 (by decide) (fun c_26 => ?_) (fun c_26 => False.elim (by rw [hno] at c_26; exact c_26 rfl))
  have c_26 := fw_b0.mp c_26
  refine lv_aload_n hx hb dX4_await_31 rfl (lv_at hl 0 rfl) ?_
  refine va_get (D := G) (ci := 4) (v := .ref (a 1)) (C := RX4) (T := TX4) (N := 4) hx hb hts hin4 hown hK hP 0 rfl rfl 0 (by decide) fl_10 (fun _ h9 => h9) rfl dX4_await_32 ?_
  refine lv_iload_n hx hb dX4_await_35 rfl (lv_at hl 2 rfl) ?_
  refine kV (As := [.int (nI k)]) (rest := []) ⟨hx, hb, hml, hown, hts⟩ (c_X1_runnerOf l G cB cI cZ tc a (nI r) (nI n) rn lv lk ss rw sg od aw tb md ql dr g (nI k) hg) (cwV 1 hts gX4_await_X1_runnerOf rfl rfl rfl (by decide +kernel) ⟨by decide, by decide⟩) hK hZ hA hP hD hS 1 1 rfl rfl rfl hl.1 rfl (Nat.le_of_ble_eq_true rfl) dX4_await_36 ⟨Nat.zero_le _, Nat.zero_le _⟩ (fun v w' H locs hp hP hD hS => ?_)
  obtain ⟨rfl, rfl⟩ := hp
  rw [px_run_nI (by omega) hk1 hk2]
  have hP : va_P G vwCl (wd a cB cI cZ (nI g) rn lv (nI r) lk ss rw sg (nI n) od aw tb md ql dr) H := hP
  have hD : va_D A (wd a cB cI cZ (nI g) rn lv (nI r) lk ss rw sg (nI n) od aw tb md ql dr) := hD
  refine W.eq (g2 := F0 m 39 ls [.int (rn k)]) rfl ?_
  refine lv_istore_n (lv' := [(3, .int (rn k)), (0, .ref (a 0)), (1, .int (nI x)), (2, .int (nI k))]) hx hb dX4_await_39 rfl hl (by decide) rfl (fun ls hl => ?_)
  refine lv_iload_n hx hb dX4_await_40 rfl (lv_at hl 0 rfl) ?_
  refine lv_iconst (v := (-1)) hx hb dX4_await_41 (by decide) ?_
  refine lv_icmp_ne (tgt := 47) hx hb dX4_await_42 (by decide) (fun c_42 => ?_) (fun c_42 => ?_)
  · refine lv_aload_n hx hb dX4_await_47 rfl (lv_at hl 1 rfl) ?_
    refine lv_iload_n hx hb dX4_await_48 rfl (lv_at hl 2 rfl) ?_
    refine lv_iconst (v := 1) hx hb dX4_await_49 (by decide) ?_
    refine lv_iload_n hx hb dX4_await_50 rfl (lv_at hl 0 rfl) ?_
    refine lv_ishl hx hb dX4_await_51 ?_
    refine kV (As := [.int (nI x), .int (1 <<< ((rn k) &&& 31))]) (rest := []) ⟨hx, hb, hml, hown, hts⟩ (c_X4_closesRing l G cB cI cZ tc a rn lv lk ss rw sg od aw tb md ql dr g r n (nI x) (1 <<< (rn k &&& 31)) hI0) (cwV 2 hts gX4_await_X4_closesRing rfl rfl rfl (by decide +kernel) ⟨by decide, by decide⟩) hK hZ hA hP hD hS 0 4 rfl rfl rfl hl.1 rfl (Nat.le_of_ble_eq_true rfl) dX4_await_52 ⟨Nat.zero_le _, Nat.zero_le _⟩ (fun v w' H locs hp hP hD hS => ?_)
    obtain ⟨rfl, rfl⟩ := hp
    have hP : va_P G vwCl (wd a cB cI cZ (nI g) rn lv (nI r) lk ss rw sg (nI n) od aw tb md ql dr) H := hP
    have hD : va_D A (wd a cB cI cZ (nI g) rn lv (nI r) lk ss rw sg (nI n) od aw tb md ql dr) := hD
    refine W.eq (g2 := F0 m 55 ls [.int (fw_b (px_cr (px_wo g n rn lv od aw tb md dr) (nI x) (1 <<< (rn k &&& 31))))]) rfl ?_
    refine lv_if_eq (tgt := 60) hx hb dX4_await_55 (by decide) (fun c_55 => ?_) (fun c_55 => ?_)
    · have c_55 := fw_b0.mp c_55
      refine lv_aload_n hx hb dX4_await_60 rfl (lv_at hl 1 rfl) ?_
      refine va_get (D := G) (ci := 4) (v := .ref (a 4)) (C := RX4) (T := TX4) (N := 4) hx hb hts hin4 hown hK hP 0 rfl rfl 3 (by decide) fl_33 (fun _ h9 => h9) rfl dX4_await_61 ?_
      refine lv_iload_n hx hb dX4_await_64 rfl (lv_at hl 2 rfl) ?_
      refine lv_iload_n hx hb dX4_await_65 rfl (lv_at hl 3 rfl) ?_
      refine kV (As := [.int (nI x), .int (nI k)]) (rest := []) ⟨hx, hb, hml, hown, hts⟩ (c_X2_addForNumber l G cB cI cZ tc a (nI g) (nI r) rn lv lk ss rw sg od aw tb md ql dr n x (nI k) hn hx6) (cwV 2 hts gX4_await_X2_addForNumber rfl rfl rfl (by decide +kernel) ⟨by decide, by decide⟩) hK hZ hA hP hD hS 4 2 rfl rfl rfl hl.1 rfl (Nat.le_of_ble_eq_true rfl) dX4_await_66 ⟨Nat.zero_le _, Nat.zero_le _⟩ (fun v w' H locs hp hP hD hS => ?_)
      obtain ⟨rfl, rfl⟩ := hp
      have hP : va_P G vwCl (wd a cB cI cZ (nI g) rn lv (nI r) lk ss rw sg (nI (n + 1)) (upd od n (nI x)) (upd aw x (nI k)) tb md ql dr) H := hP
      have hD : va_D A (wd a cB cI cZ (nI g) rn lv (nI r) lk ss rw sg (nI (n + 1)) (upd od n (nI x)) (upd aw x (nI k)) tb md ql dr) := hD
      refine W.eq (g2 := F0 m 69 ls []) rfl ?_
      refine lv_iconst (v := 1) hx hb dX4_await_69 (by decide) ?_
      exact hri _ rfl 1 _ _ _ _ _ (rfl) (by rw [if_neg c_42, if_neg (show ¬ px_cr (px_wo g n rn lv od aw tb md dr) (nI x) (1 <<< (rn k &&& 31)) = true by rw [c_55]; decide)]; exact ⟨rfl, rfl⟩) hP hD hS dX4_await_70
    · have c_55 := fw_b1.mp c_55
      refine lv_iconst (v := 2) hx hb dX4_await_58 (by decide) ?_
      exact hri _ rfl 2 _ _ _ _ _ (rfl) (by rw [if_neg c_42, if_pos c_55]; exact ⟨rfl, rfl⟩) hP hD hS dX4_await_59
  · refine lv_iconst (v := 0) hx hb dX4_await_45 (by decide) ?_
    exact hri _ rfl 0 _ _ _ _ _ (rfl) (by rw [if_pos c_42]; exact ⟨rfl, rfl⟩) hP hD hS dX4_await_46

abbrev rmX4_next : Room := { frames := 5, cells := 0, slots := 0, locals := 117 }
set_option maxHeartbeats 4000000 in
set_option maxRecDepth 100000 in
theorem c_next (l : Launch) (G : va_G) (cB cI cZ : ClassId) (tc : Nat) (a : Nat → Nat) (rn lv lk ss rw sg od aw tb md ql dr : Nat → Int32) (g : Nat) (r : Nat) (n : Nat) (hI : px_I g n od aw tb md ql dr) : KC l yX4_next wsX4_next rmX4_next G [(cB, .byte), (cI, .int), (cZ, .boolean)] tc [.ref (a 0)] (wd a cB cI cZ (nI g) rn lv (nI r) lk ss rw sg (nI n) od aw tb md ql dr) (fun v w' => match px_fst (fun k => decide (px_wo g n rn lv od aw tb md dr (od k) = 0)) n with | none => v = some (.int (-1)) ∧ w' = (wd a cB cI cZ (nI g) rn lv (nI r) lk ss rw sg (nI n) od aw tb md ql dr) | some q => ∃ x : Nat, x < 6 ∧ od q = nI x ∧ (if aw x = 0 then (if dr x = 0 then ∃ y k z : Nat, y < 8 ∧ k < 8 ∧ z < 8 ∧ tb x = nI y ∧ md x = nI (k + 1) ∧ ql x = nI z ∧ v = some (.int (nI x)) ∧ w' = (wd a cB cI cZ (nI g) rn (upd lv (64 * x + 8 * y + k) (nI z)) (nI r) lk ss rw sg (nI (px_rm n od (nI x)).1) ((px_rm n od (nI x)).2) aw tb md ql dr) else v = some (.int (nI x + 8)) ∧ w' = (wd a cB cI cZ (nI g) rn lv (nI r) lk ss rw sg (nI (px_rm n od (nI x)).1) ((px_rm n od (nI x)).2) aw tb md ql dr)) else v = some (.int (nI x)) ∧ w' = (wd a cB cI cZ (nI g) rn lv (nI r) lk ss rw sg (nI (px_rm n od (nI x)).1) ((px_rm n od (nI x)).2) aw tb md ql dr))) := by
  refine KC.of (cc := cX4_next) (maxL := 3) (ret := some .int) (by decide) rfl (Nat.le_of_ble_eq_true rfl) ?_
  intro p e s m below meth c args A Q ls hx hb hml hown hts hK hZ hA hP hD hS hl hri hrv
  have hown : s.vm.findClass RX4 = some m.cls := hown
  have hl : lv_has ls 3 [(0, .ref (a 0))] := hl
  have fl_33 := hts (.fieldLink RX4 33 "LockDesk" "queue" "LLockDesk$Queue;") (by decide +kernel)
  have hin4 : ∀ w ∈ wsX40, w ∈ wsX4_next := by decide +kernel
  have hI0 := hI
  obtain ⟨hg, hn6, hod, htb, hmd, hdr, hql, hmk⟩ := hI
  refine lv_iconst (v := 0) hx hb dX4_next_0 (by decide) ?_
  refine lv_istore_n (lv' := [(1, .int 0), (0, .ref (a 0))]) hx hb dX4_next_1 rfl hl (by decide) rfl (fun ls hl => ?_)
  have lp_2 : ∀ (nf : Nat) (i : Nat) (H : Heap) (locs : List Loc) (ls : Array Slot), n - i < nf → (i ≤ n) → (px_fst (fun k => decide (px_wo g n rn lv od aw tb md dr (od k) = 0)) i = none) → va_P G vwCl (wd a cB cI cZ (nI g) rn lv (nI r) lk ss rw sg (nI n) od aw tb md ql dr) H → va_D A (wd a cB cI cZ (nI g) rn lv (nI r) lk ss rw sg (nI n) od aw tb md ql dr) → va_S A s.heap H locs → lv_has ls 3 [(1, .int (nI i)), (0, .ref (a 0))] → W p l e rmX4_next s m args below meth c H locs 0 0 Q (F0 m 2 ls []) := by
    intro nf
    induction nf with
    | zero => intro i H locs ls h0; exact absurd h0 (Nat.not_lt_zero _)
    | succ nf_2 ih_2 =>
      intro i H locs ls hn_2 hi hno hP hD hS hl
      refine lv_iload_n hx hb dX4_next_2 rfl (lv_at hl 0 rfl) ?_
      refine lv_aload_n hx hb dX4_next_3 rfl (lv_at hl 1 rfl) ?_
      refine va_get (D := G) (ci := 4) (v := .ref (a 4)) (C := RX4) (T := TX4) (N := 4) hx hb hts hin4 hown hK hP 0 rfl rfl 3 (by decide) fl_33 (fun _ h9 => h9) rfl dX4_next_4 ?_
      refine kV (As := []) (rest := [.int (nI i)]) ⟨hx, hb, hml, hown, hts⟩ (c_X2_size l G cB cI cZ tc a (nI g) (nI r) rn lv lk ss rw sg od aw tb md ql dr n) (cwV 0 hts gX4_next_X2_size rfl rfl rfl (by decide +kernel) ⟨by decide, by decide⟩) hK hZ hA hP hD hS 4 2 rfl rfl rfl hl.1 rfl (Nat.le_of_ble_eq_true rfl) dX4_next_7 ⟨Nat.zero_le _, Nat.zero_le _⟩ (fun v w' H locs hp hP hD hS => ?_)
      obtain ⟨rfl, rfl⟩ := hp
      have hP : va_P G vwCl (wd a cB cI cZ (nI g) rn lv (nI r) lk ss rw sg (nI n) od aw tb md ql dr) H := hP
      have hD : va_D A (wd a cB cI cZ (nI g) rn lv (nI r) lk ss rw sg (nI n) od aw tb md ql dr) := hD
      refine W.eq (g2 := F0 m 10 ls [.int (nI n), .int (nI i)]) rfl ?_
      refine lv_icmp_ge (tgt := 42) hx hb dX4_next_10 (by decide) (fun c_10 => ?_) (fun c_10 => ?_)
      · have hE : i = n := by
          have := fw_nle c_10 (by omega) (by omega)
          omega
        rw [hE] at hno
        refine lv_iconst (v := (-1)) hx hb dX4_next_42 (by decide) ?_
        exact hri _ rfl (-1) _ _ _ _ _ (rfl) (by rw [hno]; exact ⟨rfl, rfl⟩) hP hD hS dX4_next_43
      · have hL : i < n := by
          have := fw_nlt c_10 (by omega) (by omega)
          omega
        refine lv_aload_n hx hb dX4_next_13 rfl (lv_at hl 1 rfl) ?_
        refine va_get (D := G) (ci := 4) (v := .ref (a 4)) (C := RX4) (T := TX4) (N := 4) hx hb hts hin4 hown hK hP 0 rfl rfl 3 (by decide) fl_33 (fun _ h9 => h9) rfl dX4_next_14 ?_
        refine lv_iload_n hx hb dX4_next_17 rfl (lv_at hl 0 rfl) ?_
        refine kV (As := [.int (nI i)]) (rest := []) ⟨hx, hb, hml, hown, hts⟩ (c_X2_sessionAt l G cB cI cZ tc a (nI g) (nI r) rn lv lk ss rw sg od aw tb md ql dr n (nI i) hn6) (cwV 1 hts gX4_next_X2_sessionAt rfl rfl rfl (by decide +kernel) ⟨by decide, by decide⟩) hK hZ hA hP hD hS 4 2 rfl rfl rfl hl.1 rfl (Nat.le_of_ble_eq_true rfl) dX4_next_18 ⟨Nat.zero_le _, Nat.zero_le _⟩ (fun v w' H locs hp hP hD hS => ?_)
        obtain ⟨rfl, rfl⟩ := hp
        obtain ⟨x, hx6, ex⟩ := hod i hL
        rw [show px_at n od (nI i) = nI x by rw [px_at, if_neg (nI_pos (by omega)), if_neg (nI_ge hL (by omega)), nI_clamp (by omega), ex]]
        have hP : va_P G vwCl (wd a cB cI cZ (nI g) rn lv (nI r) lk ss rw sg (nI n) od aw tb md ql dr) H := hP
        have hD : va_D A (wd a cB cI cZ (nI g) rn lv (nI r) lk ss rw sg (nI n) od aw tb md ql dr) := hD
        refine W.eq (g2 := F0 m 21 ls [.int (nI x)]) rfl ?_
        refine lv_istore_n (lv' := [(2, .int (nI x)), (1, .int (nI i)), (0, .ref (a 0))]) hx hb dX4_next_21 rfl hl (by decide) rfl (fun ls hl => ?_)
        refine lv_aload_n hx hb dX4_next_22 rfl (lv_at hl 2 rfl) ?_
        refine lv_iload_n hx hb dX4_next_23 rfl (lv_at hl 0 rfl) ?_
        refine kV (As := [.int (nI x)]) (rest := []) ⟨hx, hb, hml, hown, hts⟩ (c_X4_waitsOn l G cB cI cZ tc a rn lv lk ss rw sg od aw tb md ql dr g r n (nI x) hI0) (cwV 1 hts gX4_next_X4_waitsOn rfl rfl rfl (by decide +kernel) ⟨by decide, by decide⟩) hK hZ hA hP hD hS 0 4 rfl rfl rfl hl.1 rfl (Nat.le_of_ble_eq_true rfl) dX4_next_24 ⟨Nat.zero_le _, Nat.zero_le _⟩ (fun v w' H locs hp hP hD hS => ?_)
        obtain ⟨rfl, rfl⟩ := hp
        have hP : va_P G vwCl (wd a cB cI cZ (nI g) rn lv (nI r) lk ss rw sg (nI n) od aw tb md ql dr) H := hP
        have hD : va_D A (wd a cB cI cZ (nI g) rn lv (nI r) lk ss rw sg (nI n) od aw tb md ql dr) := hD
        refine W.eq (g2 := F0 m 27 ls [.int (px_wo g n rn lv od aw tb md dr (nI x))]) rfl ?_
        refine lv_if_ne (tgt := 36) hx hb dX4_next_27 (by decide) (fun c_27 => ?_) (fun c_27 => ?_)
        · refine lv_iinc (v := nI (i + 1)) (lv' := [(1, .int (nI (i + 1))), (2, .int (nI x)), (0, .ref (a 0))]) hx hb dX4_next_36 hl (k := 1) rfl (fw_inc _) (by decide) rfl (fun ls hl => ?_)
          refine lv_goto (tgt := 2) hx hb dX4_next_39 (by decide) ?_
          exact ih_2 (i + 1) _ _ _ (by omega) (by omega) (px_fstS hno (by simp [ex, c_27])) hP hD hS (lv_sub hl [0, 2] rfl)
        · refine lv_aload_n hx hb dX4_next_30 rfl (lv_at hl 2 rfl) ?_
          refine lv_iload_n hx hb dX4_next_31 rfl (lv_at hl 0 rfl) ?_
          refine kV (As := [.int (nI x)]) (rest := []) ⟨hx, hb, hml, hown, hts⟩ (c_X4_wake l G cB cI cZ tc a rn lv lk ss rw sg od aw tb md ql dr g r n x hx6 (fun h0 => hmk i x hL hx6 ex h0) hI0) (cwV 1 hts gX4_next_X4_wake rfl rfl rfl (by decide +kernel) ⟨by decide, by decide⟩) hK hZ hA hP hD hS 0 4 rfl rfl rfl hl.1 rfl (Nat.le_of_ble_eq_true rfl) dX4_next_32 ⟨Nat.zero_le _, Nat.zero_le _⟩ (fun v w' H locs hp hP hD hS => ?_)
          skip
          have hfound : px_fst (fun k => decide (px_wo g n rn lv od aw tb md dr (od k) = 0)) n = some i := px_fstT hno (by simp [ex, c_27]) hL
          by_cases ha : aw x = 0
          · rw [if_pos ha] at hp
            by_cases hd : dr x = 0
            · rw [if_pos hd] at hp
              obtain ⟨y, k, z, hy8, hk8, hz8, ey, ek, ez, rfl, rfl⟩ := hp
              exact hri _ rfl (nI x) _ _ _ _ _ rfl (by rw [hfound]; exact ⟨x, hx6, ex, by rw [if_pos ha, if_pos hd]; exact ⟨y, k, z, hy8, hk8, hz8, ey, ek, ez, rfl, rfl⟩⟩) hP hD hS dX4_next_35
            · rw [if_neg hd] at hp
              obtain ⟨rfl, rfl⟩ := hp
              exact hri _ rfl (nI x + 8) _ _ _ _ _ rfl (by rw [hfound]; exact ⟨x, hx6, ex, by rw [if_pos ha, if_neg hd]; exact ⟨rfl, rfl⟩⟩) hP hD hS dX4_next_35
          · rw [if_neg ha] at hp
            obtain ⟨rfl, rfl⟩ := hp
            exact hri _ rfl (nI x) _ _ _ _ _ rfl (by rw [hfound]; exact ⟨x, hx6, ex, by rw [if_neg ha]; exact ⟨rfl, rfl⟩⟩) hP hD hS dX4_next_35
  exact lp_2 _ 0 _ _ _ (Nat.lt_succ_self _) (by omega) (rfl) hP hD hS (lv_sub hl [0, 1] rfl)

abbrev rmX4_cancel : Room := { frames := 2, cells := 0, slots := 0, locals := 43 }
set_option maxHeartbeats 4000000 in
set_option maxRecDepth 100000 in
theorem c_cancel (l : Launch) (G : va_G) (cB cI cZ : ClassId) (tc : Nat) (a : Nat → Nat) (rn lv lk ss rw sg od aw tb md ql dr : Nat → Int32) (g : Nat) (r : Nat) (n : Nat) (x1 : Int32) (hn6 : n ≤ 6) : KC l yX4_cancel wsX4_cancel rmX4_cancel G [(cB, .byte), (cI, .int), (cZ, .boolean)] tc [.ref (a 0), .int x1] (wd a cB cI cZ (nI g) rn lv (nI r) lk ss rw sg (nI n) od aw tb md ql dr) (fun v w' => if (px_pl n od x1).isSome = true then v = some (.int 1) ∧ w' = (wd a cB cI cZ (nI g) rn lv (nI r) lk ss rw sg (nI (px_rm n od x1).1) ((px_rm n od x1).2) aw tb md ql dr) else v = some (.int 0) ∧ w' = (wd a cB cI cZ (nI g) rn lv (nI r) lk ss rw sg (nI n) od aw tb md ql dr)) := by
  refine KC.of (cc := cX4_cancel) (maxL := 2) (ret := some .boolean) (by decide) rfl (Nat.le_of_ble_eq_true rfl) ?_
  intro p e s m below meth c args A Q ls hx hb hml hown hts hK hZ hA hP hD hS hl hri hrv
  have hown : s.vm.findClass RX4 = some m.cls := hown
  have hl : lv_has ls 2 [(0, .ref (a 0)), (1, .int x1)] := hl
  have fl_33 := hts (.fieldLink RX4 33 "LockDesk" "queue" "LLockDesk$Queue;") (by decide +kernel)
  have hin4 : ∀ w ∈ wsX40, w ∈ wsX4_cancel := by decide +kernel
  refine lv_aload_n hx hb dX4_cancel_0 rfl (lv_at hl 0 rfl) ?_
  refine va_get (D := G) (ci := 4) (v := .ref (a 4)) (C := RX4) (T := TX4) (N := 4) hx hb hts hin4 hown hK hP 0 rfl rfl 3 (by decide) fl_33 (fun _ h9 => h9) rfl dX4_cancel_1 ?_
  refine lv_iload_n hx hb dX4_cancel_4 rfl (lv_at hl 1 rfl) ?_
  refine kV (As := [.int x1]) (rest := []) ⟨hx, hb, hml, hown, hts⟩ (c_X2_contains l G cB cI cZ tc a (nI g) (nI r) rn lv lk ss rw sg od aw tb md ql dr n x1 hn6) (cwV 1 hts gX4_cancel_X2_contains rfl rfl rfl (by decide +kernel) ⟨by decide, by decide⟩) hK hZ hA hP hD hS 4 2 rfl rfl rfl hl.1 rfl (Nat.le_of_ble_eq_true rfl) dX4_cancel_5 ⟨Nat.zero_le _, Nat.zero_le _⟩ (fun v w' H locs hp hP hD hS => ?_)
  obtain ⟨rfl, rfl⟩ := hp
  have hP : va_P G vwCl (wd a cB cI cZ (nI g) rn lv (nI r) lk ss rw sg (nI n) od aw tb md ql dr) H := hP
  have hD : va_D A (wd a cB cI cZ (nI g) rn lv (nI r) lk ss rw sg (nI n) od aw tb md ql dr) := hD
  refine W.eq (g2 := F0 m 8 ls [.int (fw_b (px_pl n od x1).isSome)]) rfl ?_
  refine lv_if_ne (tgt := 13) hx hb dX4_cancel_8 (by decide) (fun c_8 => ?_) (fun c_8 => ?_)
  · have c_8 := fw_b1.mp c_8
    refine lv_aload_n hx hb dX4_cancel_13 rfl (lv_at hl 0 rfl) ?_
    refine va_get (D := G) (ci := 4) (v := .ref (a 4)) (C := RX4) (T := TX4) (N := 4) hx hb hts hin4 hown hK hP 0 rfl rfl 3 (by decide) fl_33 (fun _ h9 => h9) rfl dX4_cancel_14 ?_
    refine lv_iload_n hx hb dX4_cancel_17 rfl (lv_at hl 1 rfl) ?_
    refine kV (As := [.int x1]) (rest := []) ⟨hx, hb, hml, hown, hts⟩ (c_X2_remove l G cB cI cZ tc a (nI g) (nI r) rn lv lk ss rw sg od aw tb md ql dr n x1 hn6) (cwV 1 hts gX4_cancel_X2_remove rfl rfl rfl (by decide +kernel) ⟨by decide, by decide⟩) hK hZ hA hP hD hS 4 2 rfl rfl rfl hl.1 rfl (Nat.le_of_ble_eq_true rfl) dX4_cancel_18 ⟨Nat.zero_le _, Nat.zero_le _⟩ (fun v w' H locs hp hP hD hS => ?_)
    obtain ⟨rfl, rfl⟩ := hp
    have hP : va_P G vwCl (wd a cB cI cZ (nI g) rn lv (nI r) lk ss rw sg (nI (px_rm n od x1).1) ((px_rm n od x1).2) aw tb md ql dr) H := hP
    have hD : va_D A (wd a cB cI cZ (nI g) rn lv (nI r) lk ss rw sg (nI (px_rm n od x1).1) ((px_rm n od x1).2) aw tb md ql dr) := hD
    refine W.eq (g2 := F0 m 21 ls []) rfl ?_
    refine lv_iconst (v := 1) hx hb dX4_cancel_21 (by decide) ?_
    exact hri _ rfl 1 _ _ _ _ _ (by decide) (by rw [if_pos c_8]; exact ⟨rfl, rfl⟩) hP hD hS dX4_cancel_22
  · have c_8 := fw_b0.mp c_8
    refine lv_iconst (v := 0) hx hb dX4_cancel_11 (by decide) ?_
    exact hri _ rfl 0 _ _ _ _ _ (by decide) (by rw [if_neg (show ¬ (px_pl n od x1).isSome = true by rw [c_8]; decide)]; exact ⟨rfl, rfl⟩) hP hD hS dX4_cancel_12

abbrev rmX4_end : Room := { frames := 3, cells := 0, slots := 0, locals := 69 }
set_option maxHeartbeats 4000000 in
set_option maxRecDepth 100000 in
theorem c_end_no (l : Launch) (G : va_G) (cB cI cZ : ClassId) (tc : Nat) (a : Nat → Nat) (rn lv lk ss rw sg od aw tb md ql dr : Nat → Int32) (g : Nat) (r : Nat) (n : Nat) (x1 : Int32) (x2 : Int32) (h : (px_isS x1 && px_isT x2) = false) : KC l yX4_end wsX4_end rmX4_end G [(cB, .byte), (cI, .int), (cZ, .boolean)] tc [.ref (a 0), .int x1, .int x2] (wd a cB cI cZ (nI g) rn lv (nI r) lk ss rw sg (nI n) od aw tb md ql dr) (fun v w' => v = some (.int (0)) ∧ w' = (wd a cB cI cZ (nI g) rn lv (nI r) lk ss rw sg (nI n) od aw tb md ql dr)) := by
  refine KC.of (cc := cX4_end) (maxL := 3) (ret := some .boolean) (by decide) rfl (Nat.le_of_ble_eq_true rfl) ?_
  intro p e s m below meth c args A Q ls hx hb hml hown hts hK hZ hA hP hD hS hl hri hrv
  have hown : s.vm.findClass RX4 = some m.cls := hown
  have hl : lv_has ls 3 [(0, .ref (a 0)), (1, .int x1), (2, .int x2)] := hl
  have fl_19 := hts (.fieldLink RX4 19 "LockDesk" "holdings" "LLockDesk$Holdings;") (by decide +kernel)
  have hin4 : ∀ w ∈ wsX40, w ∈ wsX4_end := by decide +kernel
  refine lv_iload_n hx hb dX4_end_0 rfl (lv_at hl 1 rfl) ?_
  refine kS (As := [.int x1]) (rest := []) ⟨hx, hb, hml, hown, hts⟩ (c_X4_isSession l G [(cB, .byte), (cI, .int), (cZ, .boolean)] tc (wd a cB cI cZ (nI g) rn lv (nI r) lk ss rw sg (nI n) od aw tb md ql dr) x1) (va_cwS 1 hts gX4_end_X4_isSession rfl rfl rfl (by decide +kernel) ⟨by decide, by decide⟩) hK hZ hA hP hD hS rfl hl.1 rfl (Nat.le_of_ble_eq_true rfl) dX4_end_1 ⟨Nat.zero_le _, Nat.zero_le _⟩ (fun v w' H locs hp hP hD hS => ?_)
  obtain ⟨rfl, rfl⟩ := hp
  have hP : va_P G vwCl (wd a cB cI cZ (nI g) rn lv (nI r) lk ss rw sg (nI n) od aw tb md ql dr) H := hP
  have hD : va_D A (wd a cB cI cZ (nI g) rn lv (nI r) lk ss rw sg (nI n) od aw tb md ql dr) := hD
  refine W.eq (g2 := F0 m 4 ls [.int (fw_b (px_isS x1))]) rfl ?_
  refine lv_if_eq (tgt := 14) hx hb dX4_end_4 (by decide) (fun c_4 => ?_) (fun c_4 => ?_)
  · have c_4 := fw_b0.mp c_4
    refine lv_iconst (v := 0) hx hb dX4_end_14 (by decide) ?_
    exact hri _ rfl 0 _ _ _ _ _ (by decide) (⟨rfl, rfl⟩) hP hD hS dX4_end_15
  · have c_4 := fw_b1.mp c_4
    refine lv_iload_n hx hb dX4_end_7 rfl (lv_at hl 2 rfl) ?_
    refine kS (As := [.int x2]) (rest := []) ⟨hx, hb, hml, hown, hts⟩ (c_X4_isLevel l G [(cB, .byte), (cI, .int), (cZ, .boolean)] tc (wd a cB cI cZ (nI g) rn lv (nI r) lk ss rw sg (nI n) od aw tb md ql dr) x2) (va_cwS 1 hts gX4_end_X4_isLevel rfl rfl rfl (by decide +kernel) ⟨by decide, by decide⟩) hK hZ hA hP hD hS rfl hl.1 rfl (Nat.le_of_ble_eq_true rfl) dX4_end_8 ⟨Nat.zero_le _, Nat.zero_le _⟩ (fun v w' H locs hp hP hD hS => ?_)
    obtain ⟨rfl, rfl⟩ := hp
    have hP : va_P G vwCl (wd a cB cI cZ (nI g) rn lv (nI r) lk ss rw sg (nI n) od aw tb md ql dr) H := hP
    have hD : va_D A (wd a cB cI cZ (nI g) rn lv (nI r) lk ss rw sg (nI n) od aw tb md ql dr) := hD
    refine W.eq (g2 := F0 m 11 ls [.int (fw_b (px_isT x2))]) rfl ?_
    refine lv_if_ne (tgt := 16) hx hb dX4_end_11 (by decide) (fun c_11 => False.elim (by have c_11 := fw_b1.mp c_11; simp [c_4, c_11] at h)) (fun c_11 => ?_)
    have c_11 := fw_b0.mp c_11
    refine lv_iconst (v := 0) hx hb dX4_end_14 (by decide) ?_
    exact hri _ rfl 0 _ _ _ _ _ (by decide) (⟨rfl, rfl⟩) hP hD hS dX4_end_15

set_option maxHeartbeats 4000000 in
set_option maxRecDepth 100000 in
theorem c_end_ok (l : Launch) (G : va_G) (cB cI cZ : ClassId) (tc : Nat) (a : Nat → Nat) (rn lv lk ss rw sg od aw tb md ql dr : Nat → Int32) (g : Nat) (r : Nat) (n : Nat) (x : Nat) (x2 : Int32) (hx6 : x < 6) (h2 : px_isT x2 = true) : KC l yX4_end wsX4_end rmX4_end G [(cB, .byte), (cI, .int), (cZ, .boolean)] tc [.ref (a 0), .int (nI x), .int x2] (wd a cB cI cZ (nI g) rn lv (nI r) lk ss rw sg (nI n) od aw tb md ql dr) (fun v w' => v = some (.int (1)) ∧ w' = (wd a cB cI cZ (nI g) rn (px_rep x x2 (-1) lv) (nI r) lk ss rw sg (nI n) od aw tb md ql dr)) := by
  refine KC.of (cc := cX4_end) (maxL := 3) (ret := some .boolean) (by decide) rfl (Nat.le_of_ble_eq_true rfl) ?_
  intro p e s m below meth c args A Q ls hx hb hml hown hts hK hZ hA hP hD hS hl hri hrv
  have hown : s.vm.findClass RX4 = some m.cls := hown
  have hl : lv_has ls 3 [(0, .ref (a 0)), (1, .int (nI x)), (2, .int x2)] := hl
  have fl_19 := hts (.fieldLink RX4 19 "LockDesk" "holdings" "LLockDesk$Holdings;") (by decide +kernel)
  have hin4 : ∀ w ∈ wsX40, w ∈ wsX4_end := by decide +kernel
  refine lv_iload_n hx hb dX4_end_0 rfl (lv_at hl 1 rfl) ?_
  refine kS (As := [.int (nI x)]) (rest := []) ⟨hx, hb, hml, hown, hts⟩ (c_X4_isSession l G [(cB, .byte), (cI, .int), (cZ, .boolean)] tc (wd a cB cI cZ (nI g) rn lv (nI r) lk ss rw sg (nI n) od aw tb md ql dr) (nI x)) (va_cwS 1 hts gX4_end_X4_isSession rfl rfl rfl (by decide +kernel) ⟨by decide, by decide⟩) hK hZ hA hP hD hS rfl hl.1 rfl (Nat.le_of_ble_eq_true rfl) dX4_end_1 ⟨Nat.zero_le _, Nat.zero_le _⟩ (fun v w' H locs hp hP hD hS => ?_)
  obtain ⟨rfl, rfl⟩ := hp
  have hP : va_P G vwCl (wd a cB cI cZ (nI g) rn lv (nI r) lk ss rw sg (nI n) od aw tb md ql dr) H := hP
  have hD : va_D A (wd a cB cI cZ (nI g) rn lv (nI r) lk ss rw sg (nI n) od aw tb md ql dr) := hD
  refine W.eq (g2 := F0 m 4 ls [.int (fw_b (px_isS (nI x)))]) rfl ?_
  refine lv_if_eq (tgt := 14) hx hb dX4_end_4 (by decide) (fun c_4 => False.elim (by rw [px_isS_nI x hx6] at c_4; exact absurd c_4 (by decide))) (fun c_4 => ?_)
  have c_4 := fw_b1.mp c_4
  refine lv_iload_n hx hb dX4_end_7 rfl (lv_at hl 2 rfl) ?_
  refine kS (As := [.int x2]) (rest := []) ⟨hx, hb, hml, hown, hts⟩ (c_X4_isLevel l G [(cB, .byte), (cI, .int), (cZ, .boolean)] tc (wd a cB cI cZ (nI g) rn lv (nI r) lk ss rw sg (nI n) od aw tb md ql dr) x2) (va_cwS 1 hts gX4_end_X4_isLevel rfl rfl rfl (by decide +kernel) ⟨by decide, by decide⟩) hK hZ hA hP hD hS rfl hl.1 rfl (Nat.le_of_ble_eq_true rfl) dX4_end_8 ⟨Nat.zero_le _, Nat.zero_le _⟩ (fun v w' H locs hp hP hD hS => ?_)
  obtain ⟨rfl, rfl⟩ := hp
  have hP : va_P G vwCl (wd a cB cI cZ (nI g) rn lv (nI r) lk ss rw sg (nI n) od aw tb md ql dr) H := hP
  have hD : va_D A (wd a cB cI cZ (nI g) rn lv (nI r) lk ss rw sg (nI n) od aw tb md ql dr) := hD
  refine W.eq (g2 := F0 m 11 ls [.int (fw_b (px_isT x2))]) rfl ?_
  refine lv_if_ne (tgt := 16) hx hb dX4_end_11 (by decide) (fun c_11 => ?_) (fun c_11 => False.elim (by rw [h2] at c_11; exact absurd c_11 (by decide)))
  have c_11 := fw_b1.mp c_11
  refine lv_aload_n hx hb dX4_end_16 rfl (lv_at hl 0 rfl) ?_
  refine va_get (D := G) (ci := 4) (v := .ref (a 2)) (C := RX4) (T := TX4) (N := 4) hx hb hts hin4 hown hK hP 0 rfl rfl 1 (by decide) fl_19 (fun _ h9 => h9) rfl dX4_end_17 ?_
  refine lv_iload_n hx hb dX4_end_20 rfl (lv_at hl 1 rfl) ?_
  refine lv_iload_n hx hb dX4_end_21 rfl (lv_at hl 2 rfl) ?_
  refine kV (As := [.int (nI x), .int x2]) (rest := []) ⟨hx, hb, hml, hown, hts⟩ (c_X0_giveUp l G cB cI cZ tc a (nI g) (nI r) (nI n) rn lv lk ss rw sg od aw tb md ql dr x x2 hx6) (cwV 2 hts gX4_end_X0_giveUp rfl rfl rfl (by decide +kernel) ⟨by decide, by decide⟩) hK hZ hA hP hD hS 2 0 rfl rfl rfl hl.1 rfl (Nat.le_of_ble_eq_true rfl) dX4_end_22 ⟨Nat.zero_le _, Nat.zero_le _⟩ (fun v w' H locs hp hP hD hS => ?_)
  obtain ⟨rfl, rfl⟩ := hp
  have hP : va_P G vwCl (wd a cB cI cZ (nI g) rn (px_rep x x2 (-1) lv) (nI r) lk ss rw sg (nI n) od aw tb md ql dr) H := hP
  have hD : va_D A (wd a cB cI cZ (nI g) rn (px_rep x x2 (-1) lv) (nI r) lk ss rw sg (nI n) od aw tb md ql dr) := hD
  refine W.eq (g2 := F0 m 25 ls []) rfl ?_
  refine lv_iconst (v := 1) hx hb dX4_end_25 (by decide) ?_
  exact hri _ rfl 1 _ _ _ _ _ (by decide) (⟨rfl, rfl⟩) hP hD hS dX4_end_26

abbrev rmX4_release : Room := { frames := 3, cells := 0, slots := 0, locals := 69 }
set_option maxHeartbeats 4000000 in
set_option maxRecDepth 100000 in
theorem c_release_no (l : Launch) (G : va_G) (cB cI cZ : ClassId) (tc : Nat) (a : Nat → Nat) (rn lv lk ss rw sg od aw tb md ql dr : Nat → Int32) (g : Nat) (r : Nat) (n : Nat) (x1 : Int32) (x2 : Int32) (h : (px_isS x1 && px_isT x2 && !decide (x2 = 0)) = false) : KC l yX4_release wsX4_release rmX4_release G [(cB, .byte), (cI, .int), (cZ, .boolean)] tc [.ref (a 0), .int x1, .int x2] (wd a cB cI cZ (nI g) rn lv (nI r) lk ss rw sg (nI n) od aw tb md ql dr) (fun v w' => v = some (.int (0)) ∧ w' = (wd a cB cI cZ (nI g) rn lv (nI r) lk ss rw sg (nI n) od aw tb md ql dr)) := by
  refine KC.of (cc := cX4_release) (maxL := 3) (ret := some .boolean) (by decide) rfl (Nat.le_of_ble_eq_true rfl) ?_
  intro p e s m below meth c args A Q ls hx hb hml hown hts hK hZ hA hP hD hS hl hri hrv
  have hown : s.vm.findClass RX4 = some m.cls := hown
  have hl : lv_has ls 3 [(0, .ref (a 0)), (1, .int x1), (2, .int x2)] := hl
  have fl_19 := hts (.fieldLink RX4 19 "LockDesk" "holdings" "LLockDesk$Holdings;") (by decide +kernel)
  have fl_33 := hts (.fieldLink RX4 33 "LockDesk" "queue" "LLockDesk$Queue;") (by decide +kernel)
  have hin4 : ∀ w ∈ wsX40, w ∈ wsX4_release := by decide +kernel
  refine lv_iload_n hx hb dX4_release_0 rfl (lv_at hl 1 rfl) ?_
  refine kS (As := [.int x1]) (rest := []) ⟨hx, hb, hml, hown, hts⟩ (c_X4_isSession l G [(cB, .byte), (cI, .int), (cZ, .boolean)] tc (wd a cB cI cZ (nI g) rn lv (nI r) lk ss rw sg (nI n) od aw tb md ql dr) x1) (va_cwS 1 hts gX4_release_X4_isSession rfl rfl rfl (by decide +kernel) ⟨by decide, by decide⟩) hK hZ hA hP hD hS rfl hl.1 rfl (Nat.le_of_ble_eq_true rfl) dX4_release_1 ⟨Nat.zero_le _, Nat.zero_le _⟩ (fun v w' H locs hp hP hD hS => ?_)
  obtain ⟨rfl, rfl⟩ := hp
  have hP : va_P G vwCl (wd a cB cI cZ (nI g) rn lv (nI r) lk ss rw sg (nI n) od aw tb md ql dr) H := hP
  have hD : va_D A (wd a cB cI cZ (nI g) rn lv (nI r) lk ss rw sg (nI n) od aw tb md ql dr) := hD
  refine W.eq (g2 := F0 m 4 ls [.int (fw_b (px_isS x1))]) rfl ?_
  refine lv_if_eq (tgt := 18) hx hb dX4_release_4 (by decide) (fun c_4 => ?_) (fun c_4 => ?_)
  · have c_4 := fw_b0.mp c_4
    refine lv_iconst (v := 0) hx hb dX4_release_18 (by decide) ?_
    exact hri _ rfl 0 _ _ _ _ _ (by decide) (⟨rfl, rfl⟩) hP hD hS dX4_release_19
  · have c_4 := fw_b1.mp c_4
    refine lv_iload_n hx hb dX4_release_7 rfl (lv_at hl 2 rfl) ?_
    refine kS (As := [.int x2]) (rest := []) ⟨hx, hb, hml, hown, hts⟩ (c_X4_isLevel l G [(cB, .byte), (cI, .int), (cZ, .boolean)] tc (wd a cB cI cZ (nI g) rn lv (nI r) lk ss rw sg (nI n) od aw tb md ql dr) x2) (va_cwS 1 hts gX4_release_X4_isLevel rfl rfl rfl (by decide +kernel) ⟨by decide, by decide⟩) hK hZ hA hP hD hS rfl hl.1 rfl (Nat.le_of_ble_eq_true rfl) dX4_release_8 ⟨Nat.zero_le _, Nat.zero_le _⟩ (fun v w' H locs hp hP hD hS => ?_)
    obtain ⟨rfl, rfl⟩ := hp
    have hP : va_P G vwCl (wd a cB cI cZ (nI g) rn lv (nI r) lk ss rw sg (nI n) od aw tb md ql dr) H := hP
    have hD : va_D A (wd a cB cI cZ (nI g) rn lv (nI r) lk ss rw sg (nI n) od aw tb md ql dr) := hD
    refine W.eq (g2 := F0 m 11 ls [.int (fw_b (px_isT x2))]) rfl ?_
    refine lv_if_eq (tgt := 18) hx hb dX4_release_11 (by decide) (fun c_11 => ?_) (fun c_11 => ?_)
    · have c_11 := fw_b0.mp c_11
      refine lv_iconst (v := 0) hx hb dX4_release_18 (by decide) ?_
      exact hri _ rfl 0 _ _ _ _ _ (by decide) (⟨rfl, rfl⟩) hP hD hS dX4_release_19
    · have c_11 := fw_b1.mp c_11
      refine lv_iload_n hx hb dX4_release_14 rfl (lv_at hl 2 rfl) ?_
      refine lv_if_ne (tgt := 20) hx hb dX4_release_15 (by decide) (fun c_15 => False.elim (by simp [c_4, c_11, c_15] at h)) (fun c_15 => ?_)
      refine lv_iconst (v := 0) hx hb dX4_release_18 (by decide) ?_
      exact hri _ rfl 0 _ _ _ _ _ (by decide) (⟨rfl, rfl⟩) hP hD hS dX4_release_19

set_option maxHeartbeats 4000000 in
set_option maxRecDepth 100000 in
theorem c_release_ok (l : Launch) (G : va_G) (cB cI cZ : ClassId) (tc : Nat) (a : Nat → Nat) (rn lv lk ss rw sg od aw tb md ql dr : Nat → Int32) (g : Nat) (r : Nat) (n : Nat) (x : Nat) (z : Nat) (hx6 : x < 6) (hz7 : z < 7) : KC l yX4_release wsX4_release rmX4_release G [(cB, .byte), (cI, .int), (cZ, .boolean)] tc [.ref (a 0), .int (nI x), .int (nI (z + 1))] (wd a cB cI cZ (nI g) rn lv (nI r) lk ss rw sg (nI n) od aw tb md ql dr) (fun v w' => v = some (.int (1)) ∧ w' = (wd a cB cI cZ (nI g) rn (px_rep x (nI (z + 1)) (nI z) lv) (nI r) lk ss rw sg (nI n) od aw tb md (px_low ql x z) dr)) := by
  refine KC.of (cc := cX4_release) (maxL := 3) (ret := some .boolean) (by decide) rfl (Nat.le_of_ble_eq_true rfl) ?_
  intro p e s m below meth c args A Q ls hx hb hml hown hts hK hZ hA hP hD hS hl hri hrv
  have hown : s.vm.findClass RX4 = some m.cls := hown
  have hl : lv_has ls 3 [(0, .ref (a 0)), (1, .int (nI x)), (2, .int (nI (z + 1)))] := hl
  have fl_19 := hts (.fieldLink RX4 19 "LockDesk" "holdings" "LLockDesk$Holdings;") (by decide +kernel)
  have fl_33 := hts (.fieldLink RX4 33 "LockDesk" "queue" "LLockDesk$Queue;") (by decide +kernel)
  have hin4 : ∀ w ∈ wsX40, w ∈ wsX4_release := by decide +kernel
  refine lv_iload_n hx hb dX4_release_0 rfl (lv_at hl 1 rfl) ?_
  refine kS (As := [.int (nI x)]) (rest := []) ⟨hx, hb, hml, hown, hts⟩ (c_X4_isSession l G [(cB, .byte), (cI, .int), (cZ, .boolean)] tc (wd a cB cI cZ (nI g) rn lv (nI r) lk ss rw sg (nI n) od aw tb md ql dr) (nI x)) (va_cwS 1 hts gX4_release_X4_isSession rfl rfl rfl (by decide +kernel) ⟨by decide, by decide⟩) hK hZ hA hP hD hS rfl hl.1 rfl (Nat.le_of_ble_eq_true rfl) dX4_release_1 ⟨Nat.zero_le _, Nat.zero_le _⟩ (fun v w' H locs hp hP hD hS => ?_)
  obtain ⟨rfl, rfl⟩ := hp
  have hP : va_P G vwCl (wd a cB cI cZ (nI g) rn lv (nI r) lk ss rw sg (nI n) od aw tb md ql dr) H := hP
  have hD : va_D A (wd a cB cI cZ (nI g) rn lv (nI r) lk ss rw sg (nI n) od aw tb md ql dr) := hD
  refine W.eq (g2 := F0 m 4 ls [.int (fw_b (px_isS (nI x)))]) rfl ?_
  refine lv_if_eq (tgt := 18) hx hb dX4_release_4 (by decide) (fun c_4 => False.elim (by rw [px_isS_nI x hx6] at c_4; exact absurd c_4 (by decide))) (fun c_4 => ?_)
  have c_4 := fw_b1.mp c_4
  refine lv_iload_n hx hb dX4_release_7 rfl (lv_at hl 2 rfl) ?_
  refine kS (As := [.int (nI (z + 1))]) (rest := []) ⟨hx, hb, hml, hown, hts⟩ (c_X4_isLevel l G [(cB, .byte), (cI, .int), (cZ, .boolean)] tc (wd a cB cI cZ (nI g) rn lv (nI r) lk ss rw sg (nI n) od aw tb md ql dr) (nI (z + 1))) (va_cwS 1 hts gX4_release_X4_isLevel rfl rfl rfl (by decide +kernel) ⟨by decide, by decide⟩) hK hZ hA hP hD hS rfl hl.1 rfl (Nat.le_of_ble_eq_true rfl) dX4_release_8 ⟨Nat.zero_le _, Nat.zero_le _⟩ (fun v w' H locs hp hP hD hS => ?_)
  obtain ⟨rfl, rfl⟩ := hp
  have hP : va_P G vwCl (wd a cB cI cZ (nI g) rn lv (nI r) lk ss rw sg (nI n) od aw tb md ql dr) H := hP
  have hD : va_D A (wd a cB cI cZ (nI g) rn lv (nI r) lk ss rw sg (nI n) od aw tb md ql dr) := hD
  refine W.eq (g2 := F0 m 11 ls [.int (fw_b (px_isT (nI (z + 1))))]) rfl ?_
  refine lv_if_eq (tgt := 18) hx hb dX4_release_11 (by decide) (fun c_11 => False.elim (by rw [px_isT_nI (z + 1) (by omega)] at c_11; exact absurd c_11 (by decide))) (fun c_11 => ?_)
  have c_11 := fw_b1.mp c_11
  refine lv_iload_n hx hb dX4_release_14 rfl (lv_at hl 2 rfl) ?_
  refine lv_if_ne (tgt := 20) hx hb dX4_release_15 (by decide) (fun c_15 => ?_) (fun c_15 => False.elim (nI_ne0 (Nat.succ_pos z) (by omega) c_15))
  refine lv_aload_n hx hb dX4_release_20 rfl (lv_at hl 0 rfl) ?_
  refine va_get (D := G) (ci := 4) (v := .ref (a 2)) (C := RX4) (T := TX4) (N := 4) hx hb hts hin4 hown hK hP 0 rfl rfl 1 (by decide) fl_19 (fun _ h9 => h9) rfl dX4_release_21 ?_
  refine lv_iload_n hx hb dX4_release_24 rfl (lv_at hl 1 rfl) ?_
  refine lv_iload_n hx hb dX4_release_25 rfl (lv_at hl 2 rfl) ?_
  refine kV (As := [.int (nI x), .int (nI (z + 1))]) (rest := []) ⟨hx, hb, hml, hown, hts⟩ (c_X0_lower l G cB cI cZ tc a (nI g) (nI r) (nI n) rn lv lk ss rw sg od aw tb md ql dr x z hx6 hz7) (cwV 2 hts gX4_release_X0_lower rfl rfl rfl (by decide +kernel) ⟨by decide, by decide⟩) hK hZ hA hP hD hS 2 0 rfl rfl rfl hl.1 rfl (Nat.le_of_ble_eq_true rfl) dX4_release_26 ⟨Nat.zero_le _, Nat.zero_le _⟩ (fun v w' H locs hp hP hD hS => ?_)
  obtain ⟨rfl, rfl⟩ := hp
  have hP : va_P G vwCl (wd a cB cI cZ (nI g) rn (px_rep x (nI (z + 1)) (nI z) lv) (nI r) lk ss rw sg (nI n) od aw tb md ql dr) H := hP
  have hD : va_D A (wd a cB cI cZ (nI g) rn (px_rep x (nI (z + 1)) (nI z) lv) (nI r) lk ss rw sg (nI n) od aw tb md ql dr) := hD
  refine W.eq (g2 := F0 m 29 ls []) rfl ?_
  refine lv_aload_n hx hb dX4_release_29 rfl (lv_at hl 0 rfl) ?_
  refine va_get (D := G) (ci := 4) (v := .ref (a 4)) (C := RX4) (T := TX4) (N := 4) hx hb hts hin4 hown hK hP 0 rfl rfl 3 (by decide) fl_33 (fun _ h9 => h9) rfl dX4_release_30 ?_
  refine lv_iload_n hx hb dX4_release_33 rfl (lv_at hl 1 rfl) ?_
  refine lv_iload_n hx hb dX4_release_34 rfl (lv_at hl 2 rfl) ?_
  refine kV (As := [.int (nI x), .int (nI (z + 1))]) (rest := []) ⟨hx, hb, hml, hown, hts⟩ (c_X2_lower l G cB cI cZ tc a (nI g) (nI r) (nI n) rn (px_rep x (nI (z + 1)) (nI z) lv) lk ss rw sg od aw tb md ql dr x z hx6) (cwV 2 hts gX4_release_X2_lower rfl rfl rfl (by decide +kernel) ⟨by decide, by decide⟩) hK hZ hA hP hD hS 4 2 rfl rfl rfl hl.1 rfl (Nat.le_of_ble_eq_true rfl) dX4_release_35 ⟨Nat.zero_le _, Nat.zero_le _⟩ (fun v w' H locs hp hP hD hS => ?_)
  obtain ⟨rfl, rfl⟩ := hp
  have hP : va_P G vwCl (wd a cB cI cZ (nI g) rn (px_rep x (nI (z + 1)) (nI z) lv) (nI r) lk ss rw sg (nI n) od aw tb md (px_low ql x z) dr) H := hP
  have hD : va_D A (wd a cB cI cZ (nI g) rn (px_rep x (nI (z + 1)) (nI z) lv) (nI r) lk ss rw sg (nI n) od aw tb md (px_low ql x z) dr) := hD
  refine W.eq (g2 := F0 m 38 ls []) rfl ?_
  refine lv_iconst (v := 1) hx hb dX4_release_38 (by decide) ?_
  exact hri _ rfl 1 _ _ _ _ _ (by decide) (⟨rfl, rfl⟩) hP hD hS dX4_release_39

abbrev rmX4_drop : Room := { frames := 2, cells := 0, slots := 0, locals := 45 }
set_option maxHeartbeats 4000000 in
set_option maxRecDepth 100000 in
theorem c_drop_no (l : Launch) (G : va_G) (cB cI cZ : ClassId) (tc : Nat) (a : Nat → Nat) (rn lv lk ss rw sg od aw tb md ql dr : Nat → Int32) (g : Nat) (r : Nat) (n : Nat) (x1 : Int32) (h : px_isT x1 = false) : KC l yX4_drop wsX4_drop rmX4_drop G [(cB, .byte), (cI, .int), (cZ, .boolean)] tc [.ref (a 0), .int x1] (wd a cB cI cZ (nI g) rn lv (nI r) lk ss rw sg (nI n) od aw tb md ql dr) (fun v w' => v = some (.int (0)) ∧ w' = (wd a cB cI cZ (nI g) rn lv (nI r) lk ss rw sg (nI n) od aw tb md ql dr)) := by
  refine KC.of (cc := cX4_drop) (maxL := 2) (ret := some .boolean) (by decide) rfl (Nat.le_of_ble_eq_true rfl) ?_
  intro p e s m below meth c args A Q ls hx hb hml hown hts hK hZ hA hP hD hS hl hri hrv
  have hown : s.vm.findClass RX4 = some m.cls := hown
  have hl : lv_has ls 2 [(0, .ref (a 0)), (1, .int x1)] := hl
  have fl_19 := hts (.fieldLink RX4 19 "LockDesk" "holdings" "LLockDesk$Holdings;") (by decide +kernel)
  have fl_33 := hts (.fieldLink RX4 33 "LockDesk" "queue" "LLockDesk$Queue;") (by decide +kernel)
  have hin4 : ∀ w ∈ wsX40, w ∈ wsX4_drop := by decide +kernel
  refine lv_iload_n hx hb dX4_drop_0 rfl (lv_at hl 1 rfl) ?_
  refine kS (As := [.int x1]) (rest := []) ⟨hx, hb, hml, hown, hts⟩ (c_X4_isTable l G [(cB, .byte), (cI, .int), (cZ, .boolean)] tc (wd a cB cI cZ (nI g) rn lv (nI r) lk ss rw sg (nI n) od aw tb md ql dr) x1) (va_cwS 1 hts gX4_drop_X4_isTable rfl rfl rfl (by decide +kernel) ⟨by decide, by decide⟩) hK hZ hA hP hD hS rfl hl.1 rfl (Nat.le_of_ble_eq_true rfl) dX4_drop_1 ⟨Nat.zero_le _, Nat.zero_le _⟩ (fun v w' H locs hp hP hD hS => ?_)
  obtain ⟨rfl, rfl⟩ := hp
  have hP : va_P G vwCl (wd a cB cI cZ (nI g) rn lv (nI r) lk ss rw sg (nI n) od aw tb md ql dr) H := hP
  have hD : va_D A (wd a cB cI cZ (nI g) rn lv (nI r) lk ss rw sg (nI n) od aw tb md ql dr) := hD
  refine W.eq (g2 := F0 m 4 ls [.int (fw_b (px_isT x1))]) rfl ?_
  refine lv_if_ne (tgt := 9) hx hb dX4_drop_4 (by decide) (fun c_4 => False.elim (by rw [h] at c_4; exact c_4 rfl)) (fun c_4 => ?_)
  have c_4 := fw_b0.mp c_4
  refine lv_iconst (v := 0) hx hb dX4_drop_7 (by decide) ?_
  exact hri _ rfl 0 _ _ _ _ _ (by decide) (⟨rfl, rfl⟩) hP hD hS dX4_drop_8

set_option maxHeartbeats 4000000 in
set_option maxRecDepth 100000 in
theorem c_drop_ok (l : Launch) (G : va_G) (cB cI cZ : ClassId) (tc : Nat) (a : Nat → Nat) (rn lv lk ss rw sg od aw tb md ql dr : Nat → Int32) (g : Nat) (r : Nat) (n : Nat) (y : Nat) (hy8 : y < 8) (hn6 : n ≤ 6) (hod : ∀ k, k < n → ∃ j : Nat, j < 6 ∧ od k = nI j) : KC l yX4_drop wsX4_drop rmX4_drop G [(cB, .byte), (cI, .int), (cZ, .boolean)] tc [.ref (a 0), .int (nI y)] (wd a cB cI cZ (nI g) rn lv (nI r) lk ss rw sg (nI n) od aw tb md ql dr) (fun v w' => v = some (.int (1)) ∧ w' = (wd a cB cI cZ (nI g) rn (px_fg y lv) (nI r) lk ss rw sg (nI n) od aw tb md ql (px_md n od aw tb dr (nI y)))) := by
  refine KC.of (cc := cX4_drop) (maxL := 2) (ret := some .boolean) (by decide) rfl (Nat.le_of_ble_eq_true rfl) ?_
  intro p e s m below meth c args A Q ls hx hb hml hown hts hK hZ hA hP hD hS hl hri hrv
  have hown : s.vm.findClass RX4 = some m.cls := hown
  have hl : lv_has ls 2 [(0, .ref (a 0)), (1, .int (nI y))] := hl
  have fl_19 := hts (.fieldLink RX4 19 "LockDesk" "holdings" "LLockDesk$Holdings;") (by decide +kernel)
  have fl_33 := hts (.fieldLink RX4 33 "LockDesk" "queue" "LLockDesk$Queue;") (by decide +kernel)
  have hin4 : ∀ w ∈ wsX40, w ∈ wsX4_drop := by decide +kernel
  refine lv_iload_n hx hb dX4_drop_0 rfl (lv_at hl 1 rfl) ?_
  refine kS (As := [.int (nI y)]) (rest := []) ⟨hx, hb, hml, hown, hts⟩ (c_X4_isTable l G [(cB, .byte), (cI, .int), (cZ, .boolean)] tc (wd a cB cI cZ (nI g) rn lv (nI r) lk ss rw sg (nI n) od aw tb md ql dr) (nI y)) (va_cwS 1 hts gX4_drop_X4_isTable rfl rfl rfl (by decide +kernel) ⟨by decide, by decide⟩) hK hZ hA hP hD hS rfl hl.1 rfl (Nat.le_of_ble_eq_true rfl) dX4_drop_1 ⟨Nat.zero_le _, Nat.zero_le _⟩ (fun v w' H locs hp hP hD hS => ?_)
  obtain ⟨rfl, rfl⟩ := hp
  have hP : va_P G vwCl (wd a cB cI cZ (nI g) rn lv (nI r) lk ss rw sg (nI n) od aw tb md ql dr) H := hP
  have hD : va_D A (wd a cB cI cZ (nI g) rn lv (nI r) lk ss rw sg (nI n) od aw tb md ql dr) := hD
  refine W.eq (g2 := F0 m 4 ls [.int (fw_b (px_isT (nI y)))]) rfl ?_
  refine lv_if_ne (tgt := 9) hx hb dX4_drop_4 (by decide) (fun c_4 => ?_) (fun c_4 => False.elim (by rw [px_isT_nI y hy8] at c_4; exact absurd c_4 (by decide)))
  have c_4 := fw_b1.mp c_4
  refine lv_aload_n hx hb dX4_drop_9 rfl (lv_at hl 0 rfl) ?_
  refine va_get (D := G) (ci := 4) (v := .ref (a 2)) (C := RX4) (T := TX4) (N := 4) hx hb hts hin4 hown hK hP 0 rfl rfl 1 (by decide) fl_19 (fun _ h9 => h9) rfl dX4_drop_10 ?_
  refine lv_iload_n hx hb dX4_drop_13 rfl (lv_at hl 1 rfl) ?_
  refine kV (As := [.int (nI y)]) (rest := []) ⟨hx, hb, hml, hown, hts⟩ (c_X0_forgetTable l G cB cI cZ tc a (nI g) (nI r) (nI n) rn lv lk ss rw sg od aw tb md ql dr y hy8) (cwV 1 hts gX4_drop_X0_forgetTable rfl rfl rfl (by decide +kernel) ⟨by decide, by decide⟩) hK hZ hA hP hD hS 2 0 rfl rfl rfl hl.1 rfl (Nat.le_of_ble_eq_true rfl) dX4_drop_14 ⟨Nat.zero_le _, Nat.zero_le _⟩ (fun v w' H locs hp hP hD hS => ?_)
  obtain ⟨rfl, rfl⟩ := hp
  have hP : va_P G vwCl (wd a cB cI cZ (nI g) rn (px_fg y lv) (nI r) lk ss rw sg (nI n) od aw tb md ql dr) H := hP
  have hD : va_D A (wd a cB cI cZ (nI g) rn (px_fg y lv) (nI r) lk ss rw sg (nI n) od aw tb md ql dr) := hD
  refine W.eq (g2 := F0 m 17 ls []) rfl ?_
  refine lv_aload_n hx hb dX4_drop_17 rfl (lv_at hl 0 rfl) ?_
  refine va_get (D := G) (ci := 4) (v := .ref (a 4)) (C := RX4) (T := TX4) (N := 4) hx hb hts hin4 hown hK hP 0 rfl rfl 3 (by decide) fl_33 (fun _ h9 => h9) rfl dX4_drop_18 ?_
  refine lv_iload_n hx hb dX4_drop_21 rfl (lv_at hl 1 rfl) ?_
  refine kV (As := [.int (nI y)]) (rest := []) ⟨hx, hb, hml, hown, hts⟩ (c_X2_markDropped l G cB cI cZ tc a (nI g) (nI r) rn (px_fg y lv) lk ss rw sg od aw tb md ql dr n (nI y) hn6 hod) (cwV 1 hts gX4_drop_X2_markDropped rfl rfl rfl (by decide +kernel) ⟨by decide, by decide⟩) hK hZ hA hP hD hS 4 2 rfl rfl rfl hl.1 rfl (Nat.le_of_ble_eq_true rfl) dX4_drop_22 ⟨Nat.zero_le _, Nat.zero_le _⟩ (fun v w' H locs hp hP hD hS => ?_)
  obtain ⟨rfl, rfl⟩ := hp
  have hP : va_P G vwCl (wd a cB cI cZ (nI g) rn (px_fg y lv) (nI r) lk ss rw sg (nI n) od aw tb md ql (px_md n od aw tb dr (nI y))) H := hP
  have hD : va_D A (wd a cB cI cZ (nI g) rn (px_fg y lv) (nI r) lk ss rw sg (nI n) od aw tb md ql (px_md n od aw tb dr (nI y))) := hD
  refine W.eq (g2 := F0 m 25 ls []) rfl ?_
  refine lv_iconst (v := 1) hx hb dX4_drop_25 (by decide) ?_
  exact hri _ rfl 1 _ _ _ _ _ (by decide) (⟨rfl, rfl⟩) hP hD hS dX4_drop_26

abbrev rmX4_clear : Room := { frames := 3, cells := 0, slots := 0, locals := 67 }
set_option maxHeartbeats 4000000 in
set_option maxRecDepth 100000 in
theorem c_clear_no (l : Launch) (G : va_G) (cB cI cZ : ClassId) (tc : Nat) (a : Nat → Nat) (rn lv lk ss rw sg od aw tb md ql dr : Nat → Int32) (g : Nat) (r : Nat) (n : Nat) (x1 : Int32) (h : px_isR x1 = false) : KC l yX4_clear wsX4_clear rmX4_clear G [(cB, .byte), (cI, .int), (cZ, .boolean)] tc [.ref (a 0), .int x1] (wd a cB cI cZ (nI g) rn lv (nI r) lk ss rw sg (nI n) od aw tb md ql dr) (fun v w' => v = some (.int (0)) ∧ w' = (wd a cB cI cZ (nI g) rn lv (nI r) lk ss rw sg (nI n) od aw tb md ql dr)) := by
  refine KC.of (cc := cX4_clear) (maxL := 2) (ret := some .boolean) (by decide) rfl (Nat.le_of_ble_eq_true rfl) ?_
  intro p e s m below meth c args A Q ls hx hb hml hown hts hK hZ hA hP hD hS hl hri hrv
  have hown : s.vm.findClass RX4 = some m.cls := hown
  have hl : lv_has ls 2 [(0, .ref (a 0)), (1, .int x1)] := hl
  have fl_26 := hts (.fieldLink RX4 26 "LockDesk" "rowLocks" "LLockDesk$RowLocks;") (by decide +kernel)
  have hin4 : ∀ w ∈ wsX40, w ∈ wsX4_clear := by decide +kernel
  refine lv_iload_n hx hb dX4_clear_0 rfl (lv_at hl 1 rfl) ?_
  refine kS (As := [.int x1]) (rest := []) ⟨hx, hb, hml, hown, hts⟩ (c_X4_isRow l G [(cB, .byte), (cI, .int), (cZ, .boolean)] tc (wd a cB cI cZ (nI g) rn lv (nI r) lk ss rw sg (nI n) od aw tb md ql dr) x1) (va_cwS 1 hts gX4_clear_X4_isRow rfl rfl rfl (by decide +kernel) ⟨by decide, by decide⟩) hK hZ hA hP hD hS rfl hl.1 rfl (Nat.le_of_ble_eq_true rfl) dX4_clear_1 ⟨Nat.zero_le _, Nat.zero_le _⟩ (fun v w' H locs hp hP hD hS => ?_)
  obtain ⟨rfl, rfl⟩ := hp
  have hP : va_P G vwCl (wd a cB cI cZ (nI g) rn lv (nI r) lk ss rw sg (nI n) od aw tb md ql dr) H := hP
  have hD : va_D A (wd a cB cI cZ (nI g) rn lv (nI r) lk ss rw sg (nI n) od aw tb md ql dr) := hD
  refine W.eq (g2 := F0 m 4 ls [.int (fw_b (px_isR x1))]) rfl ?_
  refine lv_if_ne (tgt := 9) hx hb dX4_clear_4 (by decide) (fun c_4 => False.elim (by rw [h] at c_4; exact c_4 rfl)) (fun c_4 => ?_)
  have c_4 := fw_b0.mp c_4
  refine lv_iconst (v := 0) hx hb dX4_clear_7 (by decide) ?_
  exact hri _ rfl 0 _ _ _ _ _ (by decide) (⟨rfl, rfl⟩) hP hD hS dX4_clear_8

set_option maxHeartbeats 4000000 in
set_option maxRecDepth 100000 in
theorem c_clear_ok (l : Launch) (G : va_G) (cB cI cZ : ClassId) (tc : Nat) (a : Nat → Nat) (rn lv lk ss rw sg od aw tb md ql dr : Nat → Int32) (g : Nat) (r : Nat) (n : Nat) (x1 : Int32) (h : px_isR x1 = true) (hr5 : r ≤ 512) : KC l yX4_clear wsX4_clear rmX4_clear G [(cB, .byte), (cI, .int), (cZ, .boolean)] tc [.ref (a 0), .int x1] (wd a cB cI cZ (nI g) rn lv (nI r) lk ss rw sg (nI n) od aw tb md ql dr) (fun v w' => v = some (.int (1)) ∧ w' = (wd a cB cI cZ (nI g) rn lv (nI (px_fw (fun q => q.2.2.1) x1 r (lk, ss, rw, sg)).1) ((px_fw (fun q => q.2.2.1) x1 r (lk, ss, rw, sg)).2.1) ((px_fw (fun q => q.2.2.1) x1 r (lk, ss, rw, sg)).2.2.1) ((px_fw (fun q => q.2.2.1) x1 r (lk, ss, rw, sg)).2.2.2.1) ((px_fw (fun q => q.2.2.1) x1 r (lk, ss, rw, sg)).2.2.2.2) (nI n) od aw tb md ql dr)) := by
  refine KC.of (cc := cX4_clear) (maxL := 2) (ret := some .boolean) (by decide) rfl (Nat.le_of_ble_eq_true rfl) ?_
  intro p e s m below meth c args A Q ls hx hb hml hown hts hK hZ hA hP hD hS hl hri hrv
  have hown : s.vm.findClass RX4 = some m.cls := hown
  have hl : lv_has ls 2 [(0, .ref (a 0)), (1, .int x1)] := hl
  have fl_26 := hts (.fieldLink RX4 26 "LockDesk" "rowLocks" "LLockDesk$RowLocks;") (by decide +kernel)
  have hin4 : ∀ w ∈ wsX40, w ∈ wsX4_clear := by decide +kernel
  refine lv_iload_n hx hb dX4_clear_0 rfl (lv_at hl 1 rfl) ?_
  refine kS (As := [.int x1]) (rest := []) ⟨hx, hb, hml, hown, hts⟩ (c_X4_isRow l G [(cB, .byte), (cI, .int), (cZ, .boolean)] tc (wd a cB cI cZ (nI g) rn lv (nI r) lk ss rw sg (nI n) od aw tb md ql dr) x1) (va_cwS 1 hts gX4_clear_X4_isRow rfl rfl rfl (by decide +kernel) ⟨by decide, by decide⟩) hK hZ hA hP hD hS rfl hl.1 rfl (Nat.le_of_ble_eq_true rfl) dX4_clear_1 ⟨Nat.zero_le _, Nat.zero_le _⟩ (fun v w' H locs hp hP hD hS => ?_)
  obtain ⟨rfl, rfl⟩ := hp
  have hP : va_P G vwCl (wd a cB cI cZ (nI g) rn lv (nI r) lk ss rw sg (nI n) od aw tb md ql dr) H := hP
  have hD : va_D A (wd a cB cI cZ (nI g) rn lv (nI r) lk ss rw sg (nI n) od aw tb md ql dr) := hD
  refine W.eq (g2 := F0 m 4 ls [.int (fw_b (px_isR x1))]) rfl ?_
  refine lv_if_ne (tgt := 9) hx hb dX4_clear_4 (by decide) (fun c_4 => ?_) (fun c_4 => False.elim (by rw [h] at c_4; exact absurd c_4 (by decide)))
  have c_4 := fw_b1.mp c_4
  refine lv_aload_n hx hb dX4_clear_9 rfl (lv_at hl 0 rfl) ?_
  refine va_get (D := G) (ci := 4) (v := .ref (a 3)) (C := RX4) (T := TX4) (N := 4) hx hb hts hin4 hown hK hP 0 rfl rfl 2 (by decide) fl_26 (fun _ h9 => h9) rfl dX4_clear_10 ?_
  refine lv_iload_n hx hb dX4_clear_13 rfl (lv_at hl 1 rfl) ?_
  refine kV (As := [.int x1]) (rest := []) ⟨hx, hb, hml, hown, hts⟩ (c_X3_forgetRow l G cB cI cZ tc a (nI g) (nI n) rn lv lk ss rw sg od aw tb md ql dr r x1 hr5) (cwV 1 hts gX4_clear_X3_forgetRow rfl rfl rfl (by decide +kernel) ⟨by decide, by decide⟩) hK hZ hA hP hD hS 3 3 rfl rfl rfl hl.1 rfl (Nat.le_of_ble_eq_true rfl) dX4_clear_14 ⟨Nat.zero_le _, Nat.zero_le _⟩ (fun v w' H locs hp hP hD hS => ?_)
  obtain ⟨rfl, rfl⟩ := hp
  have hP : va_P G vwCl (wd a cB cI cZ (nI g) rn lv (nI (px_fw (fun q => q.2.2.1) x1 r (lk, ss, rw, sg)).1) ((px_fw (fun q => q.2.2.1) x1 r (lk, ss, rw, sg)).2.1) ((px_fw (fun q => q.2.2.1) x1 r (lk, ss, rw, sg)).2.2.1) ((px_fw (fun q => q.2.2.1) x1 r (lk, ss, rw, sg)).2.2.2.1) ((px_fw (fun q => q.2.2.1) x1 r (lk, ss, rw, sg)).2.2.2.2) (nI n) od aw tb md ql dr) H := hP
  have hD : va_D A (wd a cB cI cZ (nI g) rn lv (nI (px_fw (fun q => q.2.2.1) x1 r (lk, ss, rw, sg)).1) ((px_fw (fun q => q.2.2.1) x1 r (lk, ss, rw, sg)).2.1) ((px_fw (fun q => q.2.2.1) x1 r (lk, ss, rw, sg)).2.2.1) ((px_fw (fun q => q.2.2.1) x1 r (lk, ss, rw, sg)).2.2.2.1) ((px_fw (fun q => q.2.2.1) x1 r (lk, ss, rw, sg)).2.2.2.2) (nI n) od aw tb md ql dr) := hD
  refine W.eq (g2 := F0 m 17 ls []) rfl ?_
  refine lv_iconst (v := 1) hx hb dX4_clear_17 (by decide) ?_
  exact hri _ rfl 1 _ _ _ _ _ (by decide) (⟨rfl, rfl⟩) hP hD hS dX4_clear_18

abbrev rmX4_holds : Room := { frames := 2, cells := 0, slots := 0, locals := 45 }
set_option maxHeartbeats 4000000 in
set_option maxRecDepth 100000 in
theorem c_holds_no (l : Launch) (G : va_G) (cB cI cZ : ClassId) (tc : Nat) (a : Nat → Nat) (rn lv lk ss rw sg od aw tb md ql dr : Nat → Int32) (g : Nat) (r : Nat) (n : Nat) (x1 : Int32) (x2 : Int32) (x3 : Int32) (h : (px_isS x1 && px_isT x2 && px_isM x3) = false) : KC l yX4_holds wsX4_holds rmX4_holds G [(cB, .byte), (cI, .int), (cZ, .boolean)] tc [.ref (a 0), .int x1, .int x2, .int x3] (wd a cB cI cZ (nI g) rn lv (nI r) lk ss rw sg (nI n) od aw tb md ql dr) (fun v w' => v = some (.int (-1)) ∧ w' = (wd a cB cI cZ (nI g) rn lv (nI r) lk ss rw sg (nI n) od aw tb md ql dr)) := by
  refine KC.of (cc := cX4_holds) (maxL := 4) (ret := some .int) (by decide) rfl (Nat.le_of_ble_eq_true rfl) ?_
  intro p e s m below meth c args A Q ls hx hb hml hown hts hK hZ hA hP hD hS hl hri hrv
  have hown : s.vm.findClass RX4 = some m.cls := hown
  have hl : lv_has ls 4 [(0, .ref (a 0)), (1, .int x1), (2, .int x2), (3, .int x3)] := hl
  have fl_19 := hts (.fieldLink RX4 19 "LockDesk" "holdings" "LLockDesk$Holdings;") (by decide +kernel)
  have hin4 : ∀ w ∈ wsX40, w ∈ wsX4_holds := by decide +kernel
  refine lv_iload_n hx hb dX4_holds_0 rfl (lv_at hl 1 rfl) ?_
  refine kS (As := [.int x1]) (rest := []) ⟨hx, hb, hml, hown, hts⟩ (c_X4_isSession l G [(cB, .byte), (cI, .int), (cZ, .boolean)] tc (wd a cB cI cZ (nI g) rn lv (nI r) lk ss rw sg (nI n) od aw tb md ql dr) x1) (va_cwS 1 hts gX4_holds_X4_isSession rfl rfl rfl (by decide +kernel) ⟨by decide, by decide⟩) hK hZ hA hP hD hS rfl hl.1 rfl (Nat.le_of_ble_eq_true rfl) dX4_holds_1 ⟨Nat.zero_le _, Nat.zero_le _⟩ (fun v w' H locs hp hP hD hS => ?_)
  obtain ⟨rfl, rfl⟩ := hp
  have hP : va_P G vwCl (wd a cB cI cZ (nI g) rn lv (nI r) lk ss rw sg (nI n) od aw tb md ql dr) H := hP
  have hD : va_D A (wd a cB cI cZ (nI g) rn lv (nI r) lk ss rw sg (nI n) od aw tb md ql dr) := hD
  refine W.eq (g2 := F0 m 4 ls [.int (fw_b (px_isS x1))]) rfl ?_
  refine lv_if_eq (tgt := 21) hx hb dX4_holds_4 (by decide) (fun c_4 => ?_) (fun c_4 => ?_)
  · have c_4 := fw_b0.mp c_4
    refine lv_iconst (v := (-1)) hx hb dX4_holds_21 (by decide) ?_
    exact hri _ rfl (-1) _ _ _ _ _ (rfl) (⟨rfl, rfl⟩) hP hD hS dX4_holds_22
  · have c_4 := fw_b1.mp c_4
    refine lv_iload_n hx hb dX4_holds_7 rfl (lv_at hl 2 rfl) ?_
    refine kS (As := [.int x2]) (rest := []) ⟨hx, hb, hml, hown, hts⟩ (c_X4_isTable l G [(cB, .byte), (cI, .int), (cZ, .boolean)] tc (wd a cB cI cZ (nI g) rn lv (nI r) lk ss rw sg (nI n) od aw tb md ql dr) x2) (va_cwS 1 hts gX4_holds_X4_isTable rfl rfl rfl (by decide +kernel) ⟨by decide, by decide⟩) hK hZ hA hP hD hS rfl hl.1 rfl (Nat.le_of_ble_eq_true rfl) dX4_holds_8 ⟨Nat.zero_le _, Nat.zero_le _⟩ (fun v w' H locs hp hP hD hS => ?_)
    obtain ⟨rfl, rfl⟩ := hp
    have hP : va_P G vwCl (wd a cB cI cZ (nI g) rn lv (nI r) lk ss rw sg (nI n) od aw tb md ql dr) H := hP
    have hD : va_D A (wd a cB cI cZ (nI g) rn lv (nI r) lk ss rw sg (nI n) od aw tb md ql dr) := hD
    refine W.eq (g2 := F0 m 11 ls [.int (fw_b (px_isT x2))]) rfl ?_
    refine lv_if_eq (tgt := 21) hx hb dX4_holds_11 (by decide) (fun c_11 => ?_) (fun c_11 => ?_)
    · have c_11 := fw_b0.mp c_11
      refine lv_iconst (v := (-1)) hx hb dX4_holds_21 (by decide) ?_
      exact hri _ rfl (-1) _ _ _ _ _ (rfl) (⟨rfl, rfl⟩) hP hD hS dX4_holds_22
    · have c_11 := fw_b1.mp c_11
      refine lv_iload_n hx hb dX4_holds_14 rfl (lv_at hl 3 rfl) ?_
      refine kS (As := [.int x3]) (rest := []) ⟨hx, hb, hml, hown, hts⟩ (c_X4_isMode l G [(cB, .byte), (cI, .int), (cZ, .boolean)] tc (wd a cB cI cZ (nI g) rn lv (nI r) lk ss rw sg (nI n) od aw tb md ql dr) x3) (va_cwS 1 hts gX4_holds_X4_isMode rfl rfl rfl (by decide +kernel) ⟨by decide, by decide⟩) hK hZ hA hP hD hS rfl hl.1 rfl (Nat.le_of_ble_eq_true rfl) dX4_holds_15 ⟨Nat.zero_le _, Nat.zero_le _⟩ (fun v w' H locs hp hP hD hS => ?_)
      obtain ⟨rfl, rfl⟩ := hp
      have hP : va_P G vwCl (wd a cB cI cZ (nI g) rn lv (nI r) lk ss rw sg (nI n) od aw tb md ql dr) H := hP
      have hD : va_D A (wd a cB cI cZ (nI g) rn lv (nI r) lk ss rw sg (nI n) od aw tb md ql dr) := hD
      refine W.eq (g2 := F0 m 18 ls [.int (fw_b (px_isM x3))]) rfl ?_
      refine lv_if_ne (tgt := 23) hx hb dX4_holds_18 (by decide) (fun c_18 => False.elim (by have c_18 := fw_b1.mp c_18; simp [c_4, c_11, c_18] at h)) (fun c_18 => ?_)
      have c_18 := fw_b0.mp c_18
      refine lv_iconst (v := (-1)) hx hb dX4_holds_21 (by decide) ?_
      exact hri _ rfl (-1) _ _ _ _ _ (rfl) (⟨rfl, rfl⟩) hP hD hS dX4_holds_22

set_option maxHeartbeats 4000000 in
set_option maxRecDepth 100000 in
theorem c_holds_ok (l : Launch) (G : va_G) (cB cI cZ : ClassId) (tc : Nat) (a : Nat → Nat) (rn lv lk ss rw sg od aw tb md ql dr : Nat → Int32) (g : Nat) (r : Nat) (n : Nat) (x : Nat) (y : Nat) (k : Nat) (hx6 : x < 6) (hy8 : y < 8) (hk8 : k < 8) : KC l yX4_holds wsX4_holds rmX4_holds G [(cB, .byte), (cI, .int), (cZ, .boolean)] tc [.ref (a 0), .int (nI x), .int (nI y), .int (nI (k + 1))] (wd a cB cI cZ (nI g) rn lv (nI r) lk ss rw sg (nI n) od aw tb md ql dr) (fun v w' => v = some (.int (lv (64 * x + 8 * y + k))) ∧ w' = (wd a cB cI cZ (nI g) rn lv (nI r) lk ss rw sg (nI n) od aw tb md ql dr)) := by
  refine KC.of (cc := cX4_holds) (maxL := 4) (ret := some .int) (by decide) rfl (Nat.le_of_ble_eq_true rfl) ?_
  intro p e s m below meth c args A Q ls hx hb hml hown hts hK hZ hA hP hD hS hl hri hrv
  have hown : s.vm.findClass RX4 = some m.cls := hown
  have hl : lv_has ls 4 [(0, .ref (a 0)), (1, .int (nI x)), (2, .int (nI y)), (3, .int (nI (k + 1)))] := hl
  have fl_19 := hts (.fieldLink RX4 19 "LockDesk" "holdings" "LLockDesk$Holdings;") (by decide +kernel)
  have hin4 : ∀ w ∈ wsX40, w ∈ wsX4_holds := by decide +kernel
  refine lv_iload_n hx hb dX4_holds_0 rfl (lv_at hl 1 rfl) ?_
  refine kS (As := [.int (nI x)]) (rest := []) ⟨hx, hb, hml, hown, hts⟩ (c_X4_isSession l G [(cB, .byte), (cI, .int), (cZ, .boolean)] tc (wd a cB cI cZ (nI g) rn lv (nI r) lk ss rw sg (nI n) od aw tb md ql dr) (nI x)) (va_cwS 1 hts gX4_holds_X4_isSession rfl rfl rfl (by decide +kernel) ⟨by decide, by decide⟩) hK hZ hA hP hD hS rfl hl.1 rfl (Nat.le_of_ble_eq_true rfl) dX4_holds_1 ⟨Nat.zero_le _, Nat.zero_le _⟩ (fun v w' H locs hp hP hD hS => ?_)
  obtain ⟨rfl, rfl⟩ := hp
  have hP : va_P G vwCl (wd a cB cI cZ (nI g) rn lv (nI r) lk ss rw sg (nI n) od aw tb md ql dr) H := hP
  have hD : va_D A (wd a cB cI cZ (nI g) rn lv (nI r) lk ss rw sg (nI n) od aw tb md ql dr) := hD
  refine W.eq (g2 := F0 m 4 ls [.int (fw_b (px_isS (nI x)))]) rfl ?_
  refine lv_if_eq (tgt := 21) hx hb dX4_holds_4 (by decide) (fun c_4 => False.elim (by rw [px_isS_nI x hx6] at c_4; exact absurd c_4 (by decide))) (fun c_4 => ?_)
  have c_4 := fw_b1.mp c_4
  refine lv_iload_n hx hb dX4_holds_7 rfl (lv_at hl 2 rfl) ?_
  refine kS (As := [.int (nI y)]) (rest := []) ⟨hx, hb, hml, hown, hts⟩ (c_X4_isTable l G [(cB, .byte), (cI, .int), (cZ, .boolean)] tc (wd a cB cI cZ (nI g) rn lv (nI r) lk ss rw sg (nI n) od aw tb md ql dr) (nI y)) (va_cwS 1 hts gX4_holds_X4_isTable rfl rfl rfl (by decide +kernel) ⟨by decide, by decide⟩) hK hZ hA hP hD hS rfl hl.1 rfl (Nat.le_of_ble_eq_true rfl) dX4_holds_8 ⟨Nat.zero_le _, Nat.zero_le _⟩ (fun v w' H locs hp hP hD hS => ?_)
  obtain ⟨rfl, rfl⟩ := hp
  have hP : va_P G vwCl (wd a cB cI cZ (nI g) rn lv (nI r) lk ss rw sg (nI n) od aw tb md ql dr) H := hP
  have hD : va_D A (wd a cB cI cZ (nI g) rn lv (nI r) lk ss rw sg (nI n) od aw tb md ql dr) := hD
  refine W.eq (g2 := F0 m 11 ls [.int (fw_b (px_isT (nI y)))]) rfl ?_
  refine lv_if_eq (tgt := 21) hx hb dX4_holds_11 (by decide) (fun c_11 => False.elim (by rw [px_isT_nI y hy8] at c_11; exact absurd c_11 (by decide))) (fun c_11 => ?_)
  have c_11 := fw_b1.mp c_11
  refine lv_iload_n hx hb dX4_holds_14 rfl (lv_at hl 3 rfl) ?_
  refine kS (As := [.int (nI (k + 1))]) (rest := []) ⟨hx, hb, hml, hown, hts⟩ (c_X4_isMode l G [(cB, .byte), (cI, .int), (cZ, .boolean)] tc (wd a cB cI cZ (nI g) rn lv (nI r) lk ss rw sg (nI n) od aw tb md ql dr) (nI (k + 1))) (va_cwS 1 hts gX4_holds_X4_isMode rfl rfl rfl (by decide +kernel) ⟨by decide, by decide⟩) hK hZ hA hP hD hS rfl hl.1 rfl (Nat.le_of_ble_eq_true rfl) dX4_holds_15 ⟨Nat.zero_le _, Nat.zero_le _⟩ (fun v w' H locs hp hP hD hS => ?_)
  obtain ⟨rfl, rfl⟩ := hp
  have hP : va_P G vwCl (wd a cB cI cZ (nI g) rn lv (nI r) lk ss rw sg (nI n) od aw tb md ql dr) H := hP
  have hD : va_D A (wd a cB cI cZ (nI g) rn lv (nI r) lk ss rw sg (nI n) od aw tb md ql dr) := hD
  refine W.eq (g2 := F0 m 18 ls [.int (fw_b (px_isM (nI (k + 1))))]) rfl ?_
  refine lv_if_ne (tgt := 23) hx hb dX4_holds_18 (by decide) (fun c_18 => ?_) (fun c_18 => False.elim (by rw [px_isM_nI k hk8] at c_18; exact absurd c_18 (by decide)))
  have c_18 := fw_b1.mp c_18
  refine lv_aload_n hx hb dX4_holds_23 rfl (lv_at hl 0 rfl) ?_
  refine va_get (D := G) (ci := 4) (v := .ref (a 2)) (C := RX4) (T := TX4) (N := 4) hx hb hts hin4 hown hK hP 0 rfl rfl 1 (by decide) fl_19 (fun _ h9 => h9) rfl dX4_holds_24 ?_
  refine lv_iload_n hx hb dX4_holds_27 rfl (lv_at hl 1 rfl) ?_
  refine lv_iload_n hx hb dX4_holds_28 rfl (lv_at hl 2 rfl) ?_
  refine lv_iload_n hx hb dX4_holds_29 rfl (lv_at hl 3 rfl) ?_
  refine kV (As := [.int (nI x), .int (nI y), .int (nI (k + 1))]) (rest := []) ⟨hx, hb, hml, hown, hts⟩ (c_X0_levelOf l G cB cI cZ tc a (nI g) (nI r) (nI n) rn lv lk ss rw sg od aw tb md ql dr x y k hx6 hy8 hk8) (cwV 3 hts gX4_holds_X0_levelOf rfl rfl rfl (by decide +kernel) ⟨by decide, by decide⟩) hK hZ hA hP hD hS 2 0 rfl rfl rfl hl.1 rfl (Nat.le_of_ble_eq_true rfl) dX4_holds_30 ⟨Nat.zero_le _, Nat.zero_le _⟩ (fun v w' H locs hp hP hD hS => ?_)
  obtain ⟨rfl, rfl⟩ := hp
  have hP : va_P G vwCl (wd a cB cI cZ (nI g) rn lv (nI r) lk ss rw sg (nI n) od aw tb md ql dr) H := hP
  have hD : va_D A (wd a cB cI cZ (nI g) rn lv (nI r) lk ss rw sg (nI n) od aw tb md ql dr) := hD
  refine W.eq (g2 := F0 m 33 ls [.int (lv (64 * x + 8 * y + k))]) rfl ?_
  exact hri _ rfl (lv (64 * x + 8 * y + k)) _ _ _ _ _ (rfl) (⟨rfl, rfl⟩) hP hD hS dX4_holds_33

abbrev rmX4_locker : Room := { frames := 1, cells := 0, slots := 0, locals := 24 }
set_option maxHeartbeats 4000000 in
set_option maxRecDepth 100000 in
theorem c_locker (l : Launch) (G : va_G) (cB cI cZ : ClassId) (tc : Nat) (a : Nat → Nat) (rn lv lk ss rw sg od aw tb md ql dr : Nat → Int32) (g : Nat) (r : Nat) (n : Nat) (x1 : Int32) (x2 : Int32) (hr5 : r ≤ 512) : KC l yX4_locker wsX4_locker rmX4_locker G [(cB, .byte), (cI, .int), (cZ, .boolean)] tc [.ref (a 0), .int x1, .int x2] (wd a cB cI cZ (nI g) rn lv (nI r) lk ss rw sg (nI n) od aw tb md ql dr) (fun v w' => v = some (.int (px_sn r lk rw sg x1 x2)) ∧ w' = (wd a cB cI cZ (nI g) rn lv (nI r) lk ss rw sg (nI n) od aw tb md ql dr)) := by
  refine KC.of (cc := cX4_locker) (maxL := 3) (ret := some .int) (by decide) rfl (Nat.le_of_ble_eq_true rfl) ?_
  intro p e s m below meth c args A Q ls hx hb hml hown hts hK hZ hA hP hD hS hl hri hrv
  have hown : s.vm.findClass RX4 = some m.cls := hown
  have hl : lv_has ls 3 [(0, .ref (a 0)), (1, .int x1), (2, .int x2)] := hl
  have fl_26 := hts (.fieldLink RX4 26 "LockDesk" "rowLocks" "LLockDesk$RowLocks;") (by decide +kernel)
  have hin4 : ∀ w ∈ wsX40, w ∈ wsX4_locker := by decide +kernel
  refine lv_aload_n hx hb dX4_locker_0 rfl (lv_at hl 0 rfl) ?_
  refine va_get (D := G) (ci := 4) (v := .ref (a 3)) (C := RX4) (T := TX4) (N := 4) hx hb hts hin4 hown hK hP 0 rfl rfl 2 (by decide) fl_26 (fun _ h9 => h9) rfl dX4_locker_1 ?_
  refine lv_iload_n hx hb dX4_locker_4 rfl (lv_at hl 1 rfl) ?_
  refine lv_iload_n hx hb dX4_locker_5 rfl (lv_at hl 2 rfl) ?_
  refine kV (As := [.int x1, .int x2]) (rest := []) ⟨hx, hb, hml, hown, hts⟩ (c_X3_signedNumberAt l G cB cI cZ tc a (nI g) (nI n) rn lv lk ss rw sg od aw tb md ql dr r x1 x2 hr5) (cwV 2 hts gX4_locker_X3_signedNumberAt rfl rfl rfl (by decide +kernel) ⟨by decide, by decide⟩) hK hZ hA hP hD hS 3 3 rfl rfl rfl hl.1 rfl (Nat.le_of_ble_eq_true rfl) dX4_locker_6 ⟨Nat.zero_le _, Nat.zero_le _⟩ (fun v w' H locs hp hP hD hS => ?_)
  obtain ⟨rfl, rfl⟩ := hp
  have hP : va_P G vwCl (wd a cB cI cZ (nI g) rn lv (nI r) lk ss rw sg (nI n) od aw tb md ql dr) H := hP
  have hD : va_D A (wd a cB cI cZ (nI g) rn lv (nI r) lk ss rw sg (nI n) od aw tb md ql dr) := hD
  refine W.eq (g2 := F0 m 9 ls [.int (px_sn r lk rw sg x1 x2)]) rfl ?_
  exact hri _ rfl (px_sn r lk rw sg x1 x2) _ _ _ _ _ (rfl) (⟨rfl, rfl⟩) hP hD hS dX4_locker_9

abbrev rmX4_on : Room := { frames := 5, cells := 0, slots := 0, locals := 117 }
set_option maxHeartbeats 4000000 in
set_option maxRecDepth 100000 in
theorem c_on (l : Launch) (G : va_G) (cB cI cZ : ClassId) (tc : Nat) (a : Nat → Nat) (rn lv lk ss rw sg od aw tb md ql dr : Nat → Int32) (g : Nat) (r : Nat) (n : Nat) (x1 : Int32) (hI : px_I g n od aw tb md ql dr) : KC l yX4_on wsX4_on rmX4_on G [(cB, .byte), (cI, .int), (cZ, .boolean)] tc [.ref (a 0), .int x1] (wd a cB cI cZ (nI g) rn lv (nI r) lk ss rw sg (nI n) od aw tb md ql dr) (fun v w' => v = some (.int (px_wo g n rn lv od aw tb md dr x1)) ∧ w' = (wd a cB cI cZ (nI g) rn lv (nI r) lk ss rw sg (nI n) od aw tb md ql dr)) := by
  refine KC.of (cc := cX4_on) (maxL := 2) (ret := some .int) (by decide) rfl (Nat.le_of_ble_eq_true rfl) ?_
  intro p e s m below meth c args A Q ls hx hb hml hown hts hK hZ hA hP hD hS hl hri hrv
  have hown : s.vm.findClass RX4 = some m.cls := hown
  have hl : lv_has ls 2 [(0, .ref (a 0)), (1, .int x1)] := hl
  refine lv_aload_n hx hb dX4_on_0 rfl (lv_at hl 0 rfl) ?_
  refine lv_iload_n hx hb dX4_on_1 rfl (lv_at hl 1 rfl) ?_
  refine kV (As := [.int x1]) (rest := []) ⟨hx, hb, hml, hown, hts⟩ (c_X4_waitsOn l G cB cI cZ tc a rn lv lk ss rw sg od aw tb md ql dr g r n x1 hI) (cwV 1 hts gX4_on_X4_waitsOn rfl rfl rfl (by decide +kernel) ⟨by decide, by decide⟩) hK hZ hA hP hD hS 0 4 rfl rfl rfl hl.1 rfl (Nat.le_of_ble_eq_true rfl) dX4_on_2 ⟨Nat.zero_le _, Nat.zero_le _⟩ (fun v w' H locs hp hP hD hS => ?_)
  obtain ⟨rfl, rfl⟩ := hp
  have hP : va_P G vwCl (wd a cB cI cZ (nI g) rn lv (nI r) lk ss rw sg (nI n) od aw tb md ql dr) H := hP
  have hD : va_D A (wd a cB cI cZ (nI g) rn lv (nI r) lk ss rw sg (nI n) od aw tb md ql dr) := hD
  refine W.eq (g2 := F0 m 5 ls [.int (px_wo g n rn lv od aw tb md dr x1)]) rfl ?_
  exact hri _ rfl (px_wo g n rn lv od aw tb md dr x1) _ _ _ _ _ (rfl) (⟨rfl, rfl⟩) hP hD hS dX4_on_5

abbrev rmX4_waiting : Room := { frames := 1, cells := 0, slots := 0, locals := 21 }
set_option maxHeartbeats 4000000 in
set_option maxRecDepth 100000 in
theorem c_waiting (l : Launch) (G : va_G) (cB cI cZ : ClassId) (tc : Nat) (a : Nat → Nat) (rn lv lk ss rw sg od aw tb md ql dr : Nat → Int32) (g : Nat) (r : Nat) (n : Nat) (x1 : Int32) (hn6 : n ≤ 6) : KC l yX4_waiting wsX4_waiting rmX4_waiting G [(cB, .byte), (cI, .int), (cZ, .boolean)] tc [.ref (a 0), .int x1] (wd a cB cI cZ (nI g) rn lv (nI r) lk ss rw sg (nI n) od aw tb md ql dr) (fun v w' => v = some (.int (px_at n od x1)) ∧ w' = (wd a cB cI cZ (nI g) rn lv (nI r) lk ss rw sg (nI n) od aw tb md ql dr)) := by
  refine KC.of (cc := cX4_waiting) (maxL := 2) (ret := some .int) (by decide) rfl (Nat.le_of_ble_eq_true rfl) ?_
  intro p e s m below meth c args A Q ls hx hb hml hown hts hK hZ hA hP hD hS hl hri hrv
  have hown : s.vm.findClass RX4 = some m.cls := hown
  have hl : lv_has ls 2 [(0, .ref (a 0)), (1, .int x1)] := hl
  have fl_33 := hts (.fieldLink RX4 33 "LockDesk" "queue" "LLockDesk$Queue;") (by decide +kernel)
  have hin4 : ∀ w ∈ wsX40, w ∈ wsX4_waiting := by decide +kernel
  refine lv_aload_n hx hb dX4_waiting_0 rfl (lv_at hl 0 rfl) ?_
  refine va_get (D := G) (ci := 4) (v := .ref (a 4)) (C := RX4) (T := TX4) (N := 4) hx hb hts hin4 hown hK hP 0 rfl rfl 3 (by decide) fl_33 (fun _ h9 => h9) rfl dX4_waiting_1 ?_
  refine lv_iload_n hx hb dX4_waiting_4 rfl (lv_at hl 1 rfl) ?_
  refine kV (As := [.int x1]) (rest := []) ⟨hx, hb, hml, hown, hts⟩ (c_X2_sessionAt l G cB cI cZ tc a (nI g) (nI r) rn lv lk ss rw sg od aw tb md ql dr n x1 hn6) (cwV 1 hts gX4_waiting_X2_sessionAt rfl rfl rfl (by decide +kernel) ⟨by decide, by decide⟩) hK hZ hA hP hD hS 4 2 rfl rfl rfl hl.1 rfl (Nat.le_of_ble_eq_true rfl) dX4_waiting_5 ⟨Nat.zero_le _, Nat.zero_le _⟩ (fun v w' H locs hp hP hD hS => ?_)
  obtain ⟨rfl, rfl⟩ := hp
  have hP : va_P G vwCl (wd a cB cI cZ (nI g) rn lv (nI r) lk ss rw sg (nI n) od aw tb md ql dr) H := hP
  have hD : va_D A (wd a cB cI cZ (nI g) rn lv (nI r) lk ss rw sg (nI n) od aw tb md ql dr) := hD
  refine W.eq (g2 := F0 m 8 ls [.int (px_at n od x1)]) rfl ?_
  exact hri _ rfl (px_at n od x1) _ _ _ _ _ (rfl) (⟨rfl, rfl⟩) hP hD hS dX4_waiting_8

abbrev rmX4_wish : Room := { frames := 2, cells := 0, slots := 0, locals := 43 }
set_option maxHeartbeats 4000000 in
set_option maxRecDepth 100000 in
theorem c_wish_no (l : Launch) (G : va_G) (cB cI cZ : ClassId) (tc : Nat) (a : Nat → Nat) (rn lv lk ss rw sg od aw tb md ql dr : Nat → Int32) (g : Nat) (r : Nat) (n : Nat) (x1 : Int32) (h : px_isS x1 = false) : KC l yX4_wish wsX4_wish rmX4_wish G [(cB, .byte), (cI, .int), (cZ, .boolean)] tc [.ref (a 0), .int x1] (wd a cB cI cZ (nI g) rn lv (nI r) lk ss rw sg (nI n) od aw tb md ql dr) (fun v w' => v = some (.int (-1)) ∧ w' = (wd a cB cI cZ (nI g) rn lv (nI r) lk ss rw sg (nI n) od aw tb md ql dr)) := by
  refine KC.of (cc := cX4_wish) (maxL := 3) (ret := some .int) (by decide) rfl (Nat.le_of_ble_eq_true rfl) ?_
  intro p e s m below meth c args A Q ls hx hb hml hown hts hK hZ hA hP hD hS hl hri hrv
  have hown : s.vm.findClass RX4 = some m.cls := hown
  have hl : lv_has ls 3 [(0, .ref (a 0)), (1, .int x1)] := hl
  have fl_33 := hts (.fieldLink RX4 33 "LockDesk" "queue" "LLockDesk$Queue;") (by decide +kernel)
  have hin4 : ∀ w ∈ wsX40, w ∈ wsX4_wish := by decide +kernel
  refine lv_iload_n hx hb dX4_wish_0 rfl (lv_at hl 1 rfl) ?_
  refine kS (As := [.int x1]) (rest := []) ⟨hx, hb, hml, hown, hts⟩ (c_X4_isSession l G [(cB, .byte), (cI, .int), (cZ, .boolean)] tc (wd a cB cI cZ (nI g) rn lv (nI r) lk ss rw sg (nI n) od aw tb md ql dr) x1) (va_cwS 1 hts gX4_wish_X4_isSession rfl rfl rfl (by decide +kernel) ⟨by decide, by decide⟩) hK hZ hA hP hD hS rfl hl.1 rfl (Nat.le_of_ble_eq_true rfl) dX4_wish_1 ⟨Nat.zero_le _, Nat.zero_le _⟩ (fun v w' H locs hp hP hD hS => ?_)
  obtain ⟨rfl, rfl⟩ := hp
  have hP : va_P G vwCl (wd a cB cI cZ (nI g) rn lv (nI r) lk ss rw sg (nI n) od aw tb md ql dr) H := hP
  have hD : va_D A (wd a cB cI cZ (nI g) rn lv (nI r) lk ss rw sg (nI n) od aw tb md ql dr) := hD
  refine W.eq (g2 := F0 m 4 ls [.int (fw_b (px_isS x1))]) rfl ?_
  refine lv_if_ne (tgt := 9) hx hb dX4_wish_4 (by decide) (fun c_4 => False.elim (by rw [h] at c_4; exact c_4 rfl)) (fun c_4 => ?_)
  have c_4 := fw_b0.mp c_4
  refine lv_iconst (v := (-1)) hx hb dX4_wish_7 (by decide) ?_
  exact hri _ rfl (-1) _ _ _ _ _ (rfl) (⟨rfl, rfl⟩) hP hD hS dX4_wish_8

set_option maxHeartbeats 4000000 in
set_option maxRecDepth 100000 in
theorem c_wish_ok (l : Launch) (G : va_G) (cB cI cZ : ClassId) (tc : Nat) (a : Nat → Nat) (rn lv lk ss rw sg od aw tb md ql dr : Nat → Int32) (g : Nat) (r : Nat) (n : Nat) (x : Nat) (hx6 : x < 6) (hn6 : n ≤ 6) (hd : dr x = 0 ∨ dr x = 1) : KC l yX4_wish wsX4_wish rmX4_wish G [(cB, .byte), (cI, .int), (cZ, .boolean)] tc [.ref (a 0), .int (nI x)] (wd a cB cI cZ (nI g) rn lv (nI r) lk ss rw sg (nI n) od aw tb md ql dr) (fun v w' => v = some (.int (if (px_pl n od (nI x)).isSome = true then (if aw x = 0 then (if dr x = 0 then 10 * tb x + md x else 1000 + (10 * tb x + md x)) else 10000 + aw x) else 0)) ∧ w' = (wd a cB cI cZ (nI g) rn lv (nI r) lk ss rw sg (nI n) od aw tb md ql dr)) := by
  refine KC.of (cc := cX4_wish) (maxL := 3) (ret := some .int) (by decide) rfl (Nat.le_of_ble_eq_true rfl) ?_
  intro p e s m below meth c args A Q ls hx hb hml hown hts hK hZ hA hP hD hS hl hri hrv
  have hown : s.vm.findClass RX4 = some m.cls := hown
  have hl : lv_has ls 3 [(0, .ref (a 0)), (1, .int (nI x))] := hl
  have fl_33 := hts (.fieldLink RX4 33 "LockDesk" "queue" "LLockDesk$Queue;") (by decide +kernel)
  have hin4 : ∀ w ∈ wsX40, w ∈ wsX4_wish := by decide +kernel
  refine lv_iload_n hx hb dX4_wish_0 rfl (lv_at hl 1 rfl) ?_
  refine kS (As := [.int (nI x)]) (rest := []) ⟨hx, hb, hml, hown, hts⟩ (c_X4_isSession l G [(cB, .byte), (cI, .int), (cZ, .boolean)] tc (wd a cB cI cZ (nI g) rn lv (nI r) lk ss rw sg (nI n) od aw tb md ql dr) (nI x)) (va_cwS 1 hts gX4_wish_X4_isSession rfl rfl rfl (by decide +kernel) ⟨by decide, by decide⟩) hK hZ hA hP hD hS rfl hl.1 rfl (Nat.le_of_ble_eq_true rfl) dX4_wish_1 ⟨Nat.zero_le _, Nat.zero_le _⟩ (fun v w' H locs hp hP hD hS => ?_)
  obtain ⟨rfl, rfl⟩ := hp
  have hP : va_P G vwCl (wd a cB cI cZ (nI g) rn lv (nI r) lk ss rw sg (nI n) od aw tb md ql dr) H := hP
  have hD : va_D A (wd a cB cI cZ (nI g) rn lv (nI r) lk ss rw sg (nI n) od aw tb md ql dr) := hD
  refine W.eq (g2 := F0 m 4 ls [.int (fw_b (px_isS (nI x)))]) rfl ?_
  refine lv_if_ne (tgt := 9) hx hb dX4_wish_4 (by decide) (fun c_4 => ?_) (fun c_4 => False.elim (by rw [px_isS_nI x hx6] at c_4; exact absurd c_4 (by decide)))
  have c_4 := fw_b1.mp c_4
  refine lv_aload_n hx hb dX4_wish_9 rfl (lv_at hl 0 rfl) ?_
  refine va_get (D := G) (ci := 4) (v := .ref (a 4)) (C := RX4) (T := TX4) (N := 4) hx hb hts hin4 hown hK hP 0 rfl rfl 3 (by decide) fl_33 (fun _ h9 => h9) rfl dX4_wish_10 ?_
  refine lv_iload_n hx hb dX4_wish_13 rfl (lv_at hl 1 rfl) ?_
  refine kV (As := [.int (nI x)]) (rest := []) ⟨hx, hb, hml, hown, hts⟩ (c_X2_contains l G cB cI cZ tc a (nI g) (nI r) rn lv lk ss rw sg od aw tb md ql dr n (nI x) hn6) (cwV 1 hts gX4_wish_X2_contains rfl rfl rfl (by decide +kernel) ⟨by decide, by decide⟩) hK hZ hA hP hD hS 4 2 rfl rfl rfl hl.1 rfl (Nat.le_of_ble_eq_true rfl) dX4_wish_14 ⟨Nat.zero_le _, Nat.zero_le _⟩ (fun v w' H locs hp hP hD hS => ?_)
  obtain ⟨rfl, rfl⟩ := hp
  have hP : va_P G vwCl (wd a cB cI cZ (nI g) rn lv (nI r) lk ss rw sg (nI n) od aw tb md ql dr) H := hP
  have hD : va_D A (wd a cB cI cZ (nI g) rn lv (nI r) lk ss rw sg (nI n) od aw tb md ql dr) := hD
  refine W.eq (g2 := F0 m 17 ls [.int (fw_b (px_pl n od (nI x)).isSome)]) rfl ?_
  refine lv_if_ne (tgt := 22) hx hb dX4_wish_17 (by decide) (fun c_17 => ?_) (fun c_17 => ?_)
  · have c_17 := fw_b1.mp c_17
    refine lv_aload_n hx hb dX4_wish_22 rfl (lv_at hl 0 rfl) ?_
    refine va_get (D := G) (ci := 4) (v := .ref (a 4)) (C := RX4) (T := TX4) (N := 4) hx hb hts hin4 hown hK hP 0 rfl rfl 3 (by decide) fl_33 (fun _ h9 => h9) rfl dX4_wish_23 ?_
    refine lv_iload_n hx hb dX4_wish_26 rfl (lv_at hl 1 rfl) ?_
    refine kV (As := [.int (nI x)]) (rest := []) ⟨hx, hb, hml, hown, hts⟩ (c_X2_isForNumber l G cB cI cZ tc a (nI g) (nI r) (nI n) rn lv lk ss rw sg od aw tb md ql dr x hx6) (cwV 1 hts gX4_wish_X2_isForNumber rfl rfl rfl (by decide +kernel) ⟨by decide, by decide⟩) hK hZ hA hP hD hS 4 2 rfl rfl rfl hl.1 rfl (Nat.le_of_ble_eq_true rfl) dX4_wish_27 ⟨Nat.zero_le _, Nat.zero_le _⟩ (fun v w' H locs hp hP hD hS => ?_)
    obtain ⟨rfl, rfl⟩ := hp
    have hP : va_P G vwCl (wd a cB cI cZ (nI g) rn lv (nI r) lk ss rw sg (nI n) od aw tb md ql dr) H := hP
    have hD : va_D A (wd a cB cI cZ (nI g) rn lv (nI r) lk ss rw sg (nI n) od aw tb md ql dr) := hD
    refine W.eq (g2 := F0 m 30 ls [.int (fw_b (!decide (aw x = 0)))]) rfl ?_
    refine lv_if_eq (tgt := 46) hx hb dX4_wish_30 (by decide) (fun c_30 => ?_) (fun c_30 => ?_)
    · have c_30 := fw_b0.mp c_30
      have c_30 : aw x = 0 := by simpa using c_30
      refine lv_bipush (v := 10) hx hb dX4_wish_46 (by decide) ?_
      refine lv_aload_n hx hb dX4_wish_48 rfl (lv_at hl 0 rfl) ?_
      refine va_get (D := G) (ci := 4) (v := .ref (a 4)) (C := RX4) (T := TX4) (N := 4) hx hb hts hin4 hown hK hP 0 rfl rfl 3 (by decide) fl_33 (fun _ h9 => h9) rfl dX4_wish_49 ?_
      refine lv_iload_n hx hb dX4_wish_52 rfl (lv_at hl 1 rfl) ?_
      refine kV (As := [.int (nI x)]) (rest := [.int 10]) ⟨hx, hb, hml, hown, hts⟩ (c_X2_tableOf l G cB cI cZ tc a (nI g) (nI r) (nI n) rn lv lk ss rw sg od aw tb md ql dr x hx6) (cwV 1 hts gX4_wish_X2_tableOf rfl rfl rfl (by decide +kernel) ⟨by decide, by decide⟩) hK hZ hA hP hD hS 4 2 rfl rfl rfl hl.1 rfl (Nat.le_of_ble_eq_true rfl) dX4_wish_53 ⟨Nat.zero_le _, Nat.zero_le _⟩ (fun v w' H locs hp hP hD hS => ?_)
      obtain ⟨rfl, rfl⟩ := hp
      have hP : va_P G vwCl (wd a cB cI cZ (nI g) rn lv (nI r) lk ss rw sg (nI n) od aw tb md ql dr) H := hP
      have hD : va_D A (wd a cB cI cZ (nI g) rn lv (nI r) lk ss rw sg (nI n) od aw tb md ql dr) := hD
      refine W.eq (g2 := F0 m 56 ls [.int (tb x), .int 10]) rfl ?_
      refine lv_imul hx hb dX4_wish_56 ?_
      refine lv_aload_n hx hb dX4_wish_57 rfl (lv_at hl 0 rfl) ?_
      refine va_get (D := G) (ci := 4) (v := .ref (a 4)) (C := RX4) (T := TX4) (N := 4) hx hb hts hin4 hown hK hP 0 rfl rfl 3 (by decide) fl_33 (fun _ h9 => h9) rfl dX4_wish_58 ?_
      refine lv_iload_n hx hb dX4_wish_61 rfl (lv_at hl 1 rfl) ?_
      refine kV (As := [.int (nI x)]) (rest := [.int (10 * (tb x))]) ⟨hx, hb, hml, hown, hts⟩ (c_X2_modeOf l G cB cI cZ tc a (nI g) (nI r) (nI n) rn lv lk ss rw sg od aw tb md ql dr x hx6) (cwV 1 hts gX4_wish_X2_modeOf rfl rfl rfl (by decide +kernel) ⟨by decide, by decide⟩) hK hZ hA hP hD hS 4 2 rfl rfl rfl hl.1 rfl (Nat.le_of_ble_eq_true rfl) dX4_wish_62 ⟨Nat.zero_le _, Nat.zero_le _⟩ (fun v w' H locs hp hP hD hS => ?_)
      obtain ⟨rfl, rfl⟩ := hp
      have hP : va_P G vwCl (wd a cB cI cZ (nI g) rn lv (nI r) lk ss rw sg (nI n) od aw tb md ql dr) H := hP
      have hD : va_D A (wd a cB cI cZ (nI g) rn lv (nI r) lk ss rw sg (nI n) od aw tb md ql dr) := hD
      refine W.eq (g2 := F0 m 65 ls [.int (md x), .int (10 * (tb x))]) rfl ?_
      refine lv_iadd hx hb dX4_wish_65 ?_
      refine lv_istore_n (lv' := [(2, .int ((10 * (tb x)) + (md x))), (0, .ref (a 0)), (1, .int (nI x))]) hx hb dX4_wish_66 rfl hl (by decide) rfl (fun ls hl => ?_)
      refine lv_aload_n hx hb dX4_wish_67 rfl (lv_at hl 1 rfl) ?_
      refine va_get (D := G) (ci := 4) (v := .ref (a 4)) (C := RX4) (T := TX4) (N := 4) hx hb hts hin4 hown hK hP 0 rfl rfl 3 (by decide) fl_33 (fun _ h9 => h9) rfl dX4_wish_68 ?_
      refine lv_iload_n hx hb dX4_wish_71 rfl (lv_at hl 2 rfl) ?_
      refine kV (As := [.int (nI x)]) (rest := []) ⟨hx, hb, hml, hown, hts⟩ (c_X2_isDropped l G cB cI cZ tc a (nI g) (nI r) (nI n) rn lv lk ss rw sg od aw tb md ql dr x hx6 hd) (cwV 1 hts gX4_wish_X2_isDropped rfl rfl rfl (by decide +kernel) ⟨by decide, by decide⟩) hK hZ hA hP hD hS 4 2 rfl rfl rfl hl.1 rfl (Nat.le_of_ble_eq_true rfl) dX4_wish_72 ⟨Nat.zero_le _, Nat.zero_le _⟩ (fun v w' H locs hp hP hD hS => ?_)
      obtain ⟨rfl, rfl⟩ := hp
      have hP : va_P G vwCl (wd a cB cI cZ (nI g) rn lv (nI r) lk ss rw sg (nI n) od aw tb md ql dr) H := hP
      have hD : va_D A (wd a cB cI cZ (nI g) rn lv (nI r) lk ss rw sg (nI n) od aw tb md ql dr) := hD
      refine W.eq (g2 := F0 m 75 ls [.int (dr x)]) rfl ?_
      refine lv_if_eq (tgt := 86) hx hb dX4_wish_75 (by decide) (fun c_75 => ?_) (fun c_75 => ?_)
      · refine lv_iload_n hx hb dX4_wish_86 rfl (lv_at hl 0 rfl) ?_
        exact hri _ rfl ((10 * (tb x)) + (md x)) _ _ _ _ _ (rfl) (⟨by rw [if_pos c_17, if_pos c_30, if_pos c_75], rfl⟩) hP hD hS dX4_wish_87
      · refine lv_sipush (v := 1000) hx hb dX4_wish_78 (by decide) ?_
        refine lv_iload_n hx hb dX4_wish_81 rfl (lv_at hl 0 rfl) ?_
        refine lv_iadd hx hb dX4_wish_82 ?_
        refine lv_goto (tgt := 87) hx hb dX4_wish_83 (by decide) ?_
        exact hri _ rfl (1000 + ((10 * (tb x)) + (md x))) _ _ _ _ _ (rfl) (⟨by rw [if_pos c_17, if_pos c_30, if_neg c_75], rfl⟩) hP hD hS dX4_wish_87
    · have c_30 := fw_b1.mp c_30
      have c_30 : ¬ aw x = 0 := by simpa using c_30
      refine lv_sipush (v := 10000) hx hb dX4_wish_33 (by decide) ?_
      refine lv_aload_n hx hb dX4_wish_36 rfl (lv_at hl 0 rfl) ?_
      refine va_get (D := G) (ci := 4) (v := .ref (a 4)) (C := RX4) (T := TX4) (N := 4) hx hb hts hin4 hown hK hP 0 rfl rfl 3 (by decide) fl_33 (fun _ h9 => h9) rfl dX4_wish_37 ?_
      refine lv_iload_n hx hb dX4_wish_40 rfl (lv_at hl 1 rfl) ?_
      refine kV (As := [.int (nI x)]) (rest := [.int 10000]) ⟨hx, hb, hml, hown, hts⟩ (c_X2_numberOf l G cB cI cZ tc a (nI g) (nI r) (nI n) rn lv lk ss rw sg od aw tb md ql dr x hx6) (cwV 1 hts gX4_wish_X2_numberOf rfl rfl rfl (by decide +kernel) ⟨by decide, by decide⟩) hK hZ hA hP hD hS 4 2 rfl rfl rfl hl.1 rfl (Nat.le_of_ble_eq_true rfl) dX4_wish_41 ⟨Nat.zero_le _, Nat.zero_le _⟩ (fun v w' H locs hp hP hD hS => ?_)
      obtain ⟨rfl, rfl⟩ := hp
      have hP : va_P G vwCl (wd a cB cI cZ (nI g) rn lv (nI r) lk ss rw sg (nI n) od aw tb md ql dr) H := hP
      have hD : va_D A (wd a cB cI cZ (nI g) rn lv (nI r) lk ss rw sg (nI n) od aw tb md ql dr) := hD
      refine W.eq (g2 := F0 m 44 ls [.int (aw x), .int 10000]) rfl ?_
      refine lv_iadd hx hb dX4_wish_44 ?_
      exact hri _ rfl (10000 + (aw x)) _ _ _ _ _ (rfl) (⟨by rw [if_pos c_17, if_neg c_30], rfl⟩) hP hD hS dX4_wish_45
  · have c_17 := fw_b0.mp c_17
    refine lv_iconst (v := 0) hx hb dX4_wish_20 (by decide) ?_
    exact hri _ rfl 0 _ _ _ _ _ (rfl) (⟨by rw [if_neg (show ¬ (px_pl n od (nI x)).isSome = true by rw [c_17]; decide)], rfl⟩) hP hD hS dX4_wish_21
end
