section
-- ===== PART A: goes FIRST, ahead of the names: the tables' words, and 'selects' of the private methods out of them =====
/-- a private method of a class that the tables say can be made, by its rows of tables_1 -/
def lw_okq (q : MethodName × Nat) : Prop := (q.1.cls ≠ "java/lang/invoke/MethodHandle" ∧ q.1.cls ≠ "java/lang/invoke/VarHandle") ∧ Cond.instantiable q.1.cls q.2 ∈ tables_1 ∧ Cond.privateMethod q.1 ∈ tables_1 ∧ Cond.instanceMethod q.1 ∈ tables_1
theorem lw_p0 : lw_okq (⟨"VaultHands", "turnBoth", "(I)I"⟩, 7) := ⟨⟨by decide +kernel, by decide +kernel⟩, List.mem_of_getElem? (i := 9) (by decide +kernel), List.mem_of_getElem? (i := 191) (by decide +kernel), List.mem_of_getElem? (i := 192) (by decide +kernel)⟩
theorem lw_p1 : lw_okq (⟨"VaultHands", "turnHand", "(II)I"⟩, 7) := ⟨⟨by decide +kernel, by decide +kernel⟩, List.mem_of_getElem? (i := 9) (by decide +kernel), List.mem_of_getElem? (i := 195) (by decide +kernel), List.mem_of_getElem? (i := 196) (by decide +kernel)⟩
theorem lw_p2 : lw_okq (⟨"VaultHands", "turnKey", "(I)I"⟩, 7) := ⟨⟨by decide +kernel, by decide +kernel⟩, List.mem_of_getElem? (i := 9) (by decide +kernel), List.mem_of_getElem? (i := 203) (by decide +kernel), List.mem_of_getElem? (i := 204) (by decide +kernel)⟩
theorem lw_p3 : lw_okq (⟨"VaultHands", "raiseAlarm", "(I)I"⟩, 7) := ⟨⟨by decide +kernel, by decide +kernel⟩, List.mem_of_getElem? (i := 9) (by decide +kernel), List.mem_of_getElem? (i := 207) (by decide +kernel), List.mem_of_getElem? (i := 208) (by decide +kernel)⟩
theorem lw_p4 : lw_okq (⟨"VaultHands", "letGo", "(II)I"⟩, 7) := ⟨⟨by decide +kernel, by decide +kernel⟩, List.mem_of_getElem? (i := 9) (by decide +kernel), List.mem_of_getElem? (i := 211) (by decide +kernel), List.mem_of_getElem? (i := 212) (by decide +kernel)⟩
theorem lw_p5 : lw_okq (⟨"VaultHands", "hasRow", "(II)Z"⟩, 7) := ⟨⟨by decide +kernel, by decide +kernel⟩, List.mem_of_getElem? (i := 9) (by decide +kernel), List.mem_of_getElem? (i := 243) (by decide +kernel), List.mem_of_getElem? (i := 244) (by decide +kernel)⟩
theorem lw_p6 : lw_okq (⟨"VaultHands", "isOrder", "(IIII)Z"⟩, 7) := ⟨⟨by decide +kernel, by decide +kernel⟩, List.mem_of_getElem? (i := 9) (by decide +kernel), List.mem_of_getElem? (i := 262) (by decide +kernel), List.mem_of_getElem? (i := 263) (by decide +kernel)⟩
theorem lw_p7 : lw_okq (⟨"VaultHands", "doOrder", "(I)Z"⟩, 7) := ⟨⟨by decide +kernel, by decide +kernel⟩, List.mem_of_getElem? (i := 9) (by decide +kernel), List.mem_of_getElem? (i := 274) (by decide +kernel), List.mem_of_getElem? (i := 275) (by decide +kernel)⟩
theorem lw_p8 : lw_okq (⟨"VaultHandsModel", "isVault", "(I)Z"⟩, 20) := ⟨⟨by decide +kernel, by decide +kernel⟩, List.mem_of_getElem? (i := 318) (by decide +kernel), List.mem_of_getElem? (i := 401) (by decide +kernel), List.mem_of_getElem? (i := 402) (by decide +kernel)⟩
theorem lw_p9 : lw_okq (⟨"VaultHandsModel", "isKey", "(I)Z"⟩, 20) := ⟨⟨by decide +kernel, by decide +kernel⟩, List.mem_of_getElem? (i := 318) (by decide +kernel), List.mem_of_getElem? (i := 408) (by decide +kernel), List.mem_of_getElem? (i := 409) (by decide +kernel)⟩
theorem lw_p10 : lw_okq (⟨"VaultHandsModel", "turnBoth", "(I)I"⟩, 20) := ⟨⟨by decide +kernel, by decide +kernel⟩, List.mem_of_getElem? (i := 318) (by decide +kernel), List.mem_of_getElem? (i := 420) (by decide +kernel), List.mem_of_getElem? (i := 421) (by decide +kernel)⟩
theorem lw_p11 : lw_okq (⟨"VaultHandsModel", "turnHand", "(II)I"⟩, 20) := ⟨⟨by decide +kernel, by decide +kernel⟩, List.mem_of_getElem? (i := 318) (by decide +kernel), List.mem_of_getElem? (i := 424) (by decide +kernel), List.mem_of_getElem? (i := 425) (by decide +kernel)⟩
theorem lw_p12 : lw_okq (⟨"VaultHandsModel", "enter", "(I)V"⟩, 20) := ⟨⟨by decide +kernel, by decide +kernel⟩, List.mem_of_getElem? (i := 318) (by decide +kernel), List.mem_of_getElem? (i := 428) (by decide +kernel), List.mem_of_getElem? (i := 429) (by decide +kernel)⟩
theorem lw_p13 : lw_okq (⟨"VaultHandsModel", "turnKey", "(I)I"⟩, 20) := ⟨⟨by decide +kernel, by decide +kernel⟩, List.mem_of_getElem? (i := 318) (by decide +kernel), List.mem_of_getElem? (i := 432) (by decide +kernel), List.mem_of_getElem? (i := 433) (by decide +kernel)⟩
theorem lw_p14 : lw_okq (⟨"VaultHandsModel", "alarm", "()V"⟩, 20) := ⟨⟨by decide +kernel, by decide +kernel⟩, List.mem_of_getElem? (i := 318) (by decide +kernel), List.mem_of_getElem? (i := 436) (by decide +kernel), List.mem_of_getElem? (i := 437) (by decide +kernel)⟩
theorem lw_p15 : lw_okq (⟨"VaultHandsModel", "dropAll", "(I)V"⟩, 20) := ⟨⟨by decide +kernel, by decide +kernel⟩, List.mem_of_getElem? (i := 318) (by decide +kernel), List.mem_of_getElem? (i := 440) (by decide +kernel), List.mem_of_getElem? (i := 441) (by decide +kernel)⟩
def lw_privs_1 : List (MethodName × Nat) := [(⟨"VaultHands", "turnBoth", "(I)I"⟩, 7), (⟨"VaultHands", "turnHand", "(II)I"⟩, 7), (⟨"VaultHands", "turnKey", "(I)I"⟩, 7), (⟨"VaultHands", "raiseAlarm", "(I)I"⟩, 7), (⟨"VaultHands", "letGo", "(II)I"⟩, 7), (⟨"VaultHands", "hasRow", "(II)Z"⟩, 7), (⟨"VaultHands", "isOrder", "(IIII)Z"⟩, 7), (⟨"VaultHands", "doOrder", "(I)Z"⟩, 7), (⟨"VaultHandsModel", "isVault", "(I)Z"⟩, 20), (⟨"VaultHandsModel", "isKey", "(I)Z"⟩, 20), (⟨"VaultHandsModel", "turnBoth", "(I)I"⟩, 20), (⟨"VaultHandsModel", "turnHand", "(II)I"⟩, 20), (⟨"VaultHandsModel", "enter", "(I)V"⟩, 20), (⟨"VaultHandsModel", "turnKey", "(I)I"⟩, 20), (⟨"VaultHandsModel", "alarm", "()V"⟩, 20), (⟨"VaultHandsModel", "dropAll", "(I)V"⟩, 20)]
theorem lw_r1 : ∀ q ∈ lw_privs_1, lw_okq q := List.forall_mem_cons.mpr ⟨lw_p0, List.forall_mem_cons.mpr ⟨lw_p1, List.forall_mem_cons.mpr ⟨lw_p2, List.forall_mem_cons.mpr ⟨lw_p3, List.forall_mem_cons.mpr ⟨lw_p4, List.forall_mem_cons.mpr ⟨lw_p5, List.forall_mem_cons.mpr ⟨lw_p6, List.forall_mem_cons.mpr ⟨lw_p7, List.forall_mem_cons.mpr ⟨lw_p8, List.forall_mem_cons.mpr ⟨lw_p9, List.forall_mem_cons.mpr ⟨lw_p10, List.forall_mem_cons.mpr ⟨lw_p11, List.forall_mem_cons.mpr ⟨lw_p12, List.forall_mem_cons.mpr ⟨lw_p13, List.forall_mem_cons.mpr ⟨lw_p14, List.forall_mem_cons.mpr ⟨lw_p15, fun _ h => absurd h List.not_mem_nil⟩⟩⟩⟩⟩⟩⟩⟩⟩⟩⟩⟩⟩⟩⟩⟩
theorem lw_p16 : lw_okq (⟨"VaultHandsModel", "dropTop", "(I)V"⟩, 20) := ⟨⟨by decide +kernel, by decide +kernel⟩, List.mem_of_getElem? (i := 318) (by decide +kernel), List.mem_of_getElem? (i := 444) (by decide +kernel), List.mem_of_getElem? (i := 445) (by decide +kernel)⟩
theorem lw_p17 : lw_okq (⟨"VaultHandsModel", "answered", "(I)I"⟩, 20) := ⟨⟨by decide +kernel, by decide +kernel⟩, List.mem_of_getElem? (i := 318) (by decide +kernel), List.mem_of_getElem? (i := 448) (by decide +kernel), List.mem_of_getElem? (i := 449) (by decide +kernel)⟩
theorem lw_p18 : lw_okq (⟨"VaultHandsModel", "ended", "(I)I"⟩, 20) := ⟨⟨by decide +kernel, by decide +kernel⟩, List.mem_of_getElem? (i := 318) (by decide +kernel), List.mem_of_getElem? (i := 452) (by decide +kernel), List.mem_of_getElem? (i := 453) (by decide +kernel)⟩
theorem lw_p19 : lw_okq (⟨"VaultHandsModel", "alarmed", "(I)I"⟩, 20) := ⟨⟨by decide +kernel, by decide +kernel⟩, List.mem_of_getElem? (i := 318) (by decide +kernel), List.mem_of_getElem? (i := 460) (by decide +kernel), List.mem_of_getElem? (i := 461) (by decide +kernel)⟩
theorem lw_p20 : lw_okq (⟨"VaultHandsModel", "areThere", "(II)Z"⟩, 20) := ⟨⟨by decide +kernel, by decide +kernel⟩, List.mem_of_getElem? (i := 318) (by decide +kernel), List.mem_of_getElem? (i := 484) (by decide +kernel), List.mem_of_getElem? (i := 485) (by decide +kernel)⟩
theorem lw_p21 : lw_okq (⟨"VaultHandsModel", "isOrder", "(IIII)Z"⟩, 20) := ⟨⟨by decide +kernel, by decide +kernel⟩, List.mem_of_getElem? (i := 318) (by decide +kernel), List.mem_of_getElem? (i := 500) (by decide +kernel), List.mem_of_getElem? (i := 501) (by decide +kernel)⟩
theorem lw_p22 : lw_okq (⟨"VaultHandsModel", "carriedOut", "(I)I"⟩, 20) := ⟨⟨by decide +kernel, by decide +kernel⟩, List.mem_of_getElem? (i := 318) (by decide +kernel), List.mem_of_getElem? (i := 508) (by decide +kernel), List.mem_of_getElem? (i := 509) (by decide +kernel)⟩
def lw_privs_2 : List (MethodName × Nat) := [(⟨"VaultHandsModel", "dropTop", "(I)V"⟩, 20), (⟨"VaultHandsModel", "answered", "(I)I"⟩, 20), (⟨"VaultHandsModel", "ended", "(I)I"⟩, 20), (⟨"VaultHandsModel", "alarmed", "(I)I"⟩, 20), (⟨"VaultHandsModel", "areThere", "(II)Z"⟩, 20), (⟨"VaultHandsModel", "isOrder", "(IIII)Z"⟩, 20), (⟨"VaultHandsModel", "carriedOut", "(I)I"⟩, 20)]
theorem lw_r2 : ∀ q ∈ lw_privs_2, lw_okq q := List.forall_mem_cons.mpr ⟨lw_p16, List.forall_mem_cons.mpr ⟨lw_p17, List.forall_mem_cons.mpr ⟨lw_p18, List.forall_mem_cons.mpr ⟨lw_p19, List.forall_mem_cons.mpr ⟨lw_p20, List.forall_mem_cons.mpr ⟨lw_p21, List.forall_mem_cons.mpr ⟨lw_p22, fun _ h => absurd h List.not_mem_nil⟩⟩⟩⟩⟩⟩⟩
def lw_privs : List (MethodName × Nat) := lw_privs_1 ++ (lw_privs_2)
def lw_tbl : List Cond := k2_sels lw_privs ++ tables_1
theorem lw_privs_ok : ∀ q ∈ lw_privs, lw_okq q := by
  show ∀ q ∈ lw_privs_1 ++ (lw_privs_2), lw_okq q
  exact List.forall_mem_append.mpr ⟨lw_r1, lw_r2⟩
-- names
def RX0 : String := "VaultHands$Book"
def TX0 : u_T := fun k => match k with
  | 0 => ("VaultHands$Book", "kept", "[I", true)
  | _ => ("VaultHands$Book", "count", "I", false)
def tyX0 : Nat → FieldType := fun k => match k with
  | 0 => .array .int
  | _ => .int
abbrev wsX00 : List Cond := u_ws RX0 TX0 2
theorem nmX0 : ∀ a, a < 2 → ∀ b, b < 2 → a ≠ b → (TX0 a).2.1 ≠ (TX0 b).2.1 := by decide +kernel
theorem tyX0_ok : ∀ k, k < 2 → parseFieldDescriptor (TX0 k).2.2.1 = some (tyX0 k) := by decide +kernel
abbrev cX0_init : ByteArray := prog_2_method_1_code
def yX0_init : MethodName := ⟨RX0, "<init>", "()V"⟩
abbrev cX0_write : ByteArray := prog_2_method_2_code
def yX0_write : MethodName := ⟨RX0, "write", "(I)V"⟩
abbrev cX0_read : ByteArray := prog_2_method_3_code
def yX0_read : MethodName := ⟨RX0, "read", "(I)I"⟩
def RX1 : String := "VaultHands$Keys"
def TX1 : u_T := fun k => match k with
  | 0 => ("VaultHands$Keys", "teeth", "[I", true)
  | 1 => ("VaultHands$Keys", "strains", "[I", true)
  | 2 => ("VaultHands$Keys", "wears", "[I", true)
  | 3 => ("VaultHands$Keys", "held", "[I", true)
  | _ => ("VaultHands$Keys", "count", "I", false)
def tyX1 : Nat → FieldType := fun k => match k with
  | 0 => .array .int
  | 1 => .array .int
  | 2 => .array .int
  | 3 => .array .int
  | _ => .int
abbrev wsX10 : List Cond := u_ws RX1 TX1 5
theorem nmX1 : ∀ a, a < 5 → ∀ b, b < 5 → a ≠ b → (TX1 a).2.1 ≠ (TX1 b).2.1 := by decide +kernel
theorem tyX1_ok : ∀ k, k < 5 → parseFieldDescriptor (TX1 k).2.2.1 = some (tyX1 k) := by decide +kernel
abbrev cX1_init : ByteArray := prog_3_method_1_code
def yX1_init : MethodName := ⟨RX1, "<init>", "()V"⟩
abbrev cX1_has : ByteArray := prog_3_method_2_code
def yX1_has : MethodName := ⟨RX1, "has", "(I)Z"⟩
abbrev cX1_add : ByteArray := prog_3_method_3_code
def yX1_add : MethodName := ⟨RX1, "add", "(II)I"⟩
def RX2 : String := "VaultHands$Tray"
def TX2 : u_T := fun k => match k with
  | 0 => ("VaultHands$Tray", "ops", "[I", true)
  | 1 => ("VaultHands$Tray", "firsts", "[I", true)
  | 2 => ("VaultHands$Tray", "seconds", "[I", true)
  | 3 => ("VaultHands$Tray", "amounts", "[I", true)
  | _ => ("VaultHands$Tray", "count", "I", false)
def tyX2 : Nat → FieldType := fun k => match k with
  | 0 => .array .int
  | 1 => .array .int
  | 2 => .array .int
  | 3 => .array .int
  | _ => .int
abbrev wsX20 : List Cond := u_ws RX2 TX2 5
theorem nmX2 : ∀ a, a < 5 → ∀ b, b < 5 → a ≠ b → (TX2 a).2.1 ≠ (TX2 b).2.1 := by decide +kernel
theorem tyX2_ok : ∀ k, k < 5 → parseFieldDescriptor (TX2 k).2.2.1 = some (tyX2 k) := by decide +kernel
abbrev cX2_init : ByteArray := prog_4_method_1_code
def yX2_init : MethodName := ⟨RX2, "<init>", "()V"⟩
abbrev cX2_add : ByteArray := prog_4_method_2_code
def yX2_add : MethodName := ⟨RX2, "add", "(IIII)I"⟩
def RX3 : String := "VaultHands$Vaults"
def TX3 : u_T := fun k => match k with
  | 0 => ("VaultHands$Vaults", "limits", "[I", true)
  | 1 => ("VaultHands$Vaults", "sums", "[I", true)
  | 2 => ("VaultHands$Vaults", "nexts", "[I", true)
  | 3 => ("VaultHands$Vaults", "lefts", "[I", true)
  | 4 => ("VaultHands$Vaults", "rights", "[I", true)
  | _ => ("VaultHands$Vaults", "count", "I", false)
def tyX3 : Nat → FieldType := fun k => match k with
  | 0 => .array .int
  | 1 => .array .int
  | 2 => .array .int
  | 3 => .array .int
  | 4 => .array .int
  | _ => .int
abbrev wsX30 : List Cond := u_ws RX3 TX3 6
theorem nmX3 : ∀ a, a < 6 → ∀ b, b < 6 → a ≠ b → (TX3 a).2.1 ≠ (TX3 b).2.1 := by decide +kernel
theorem tyX3_ok : ∀ k, k < 6 → parseFieldDescriptor (TX3 k).2.2.1 = some (tyX3 k) := by decide +kernel
abbrev cX3_init : ByteArray := prog_5_method_1_code
def yX3_init : MethodName := ⟨RX3, "<init>", "()V"⟩
abbrev cX3_has : ByteArray := prog_5_method_2_code
def yX3_has : MethodName := ⟨RX3, "has", "(I)Z"⟩
abbrev cX3_hasHand : ByteArray := prog_5_method_3_code
def yX3_hasHand : MethodName := ⟨RX3, "hasHand", "(II)Z"⟩
abbrev cX3_add : ByteArray := prog_5_method_4_code
def yX3_add : MethodName := ⟨RX3, "add", "(I)I"⟩
abbrev cX3_keyAt : ByteArray := prog_5_method_5_code
def yX3_keyAt : MethodName := ⟨RX3, "keyAt", "(II)I"⟩
abbrev cX3_setKeyAt : ByteArray := prog_5_method_6_code
def yX3_setKeyAt : MethodName := ⟨RX3, "setKeyAt", "(III)V"⟩
abbrev cX3_isTooMuch : ByteArray := prog_5_method_7_code
def yX3_isTooMuch : MethodName := ⟨RX3, "isTooMuch", "(II)Z"⟩
def RX4 : String := "VaultHands"
def TX4 : u_T := fun k => match k with
  | 0 => ("VaultHands", "keys", "LVaultHands$Keys;", true)
  | 1 => ("VaultHands", "vaults", "LVaultHands$Vaults;", true)
  | 2 => ("VaultHands", "book", "LVaultHands$Book;", true)
  | 3 => ("VaultHands", "tray", "LVaultHands$Tray;", true)
  | 4 => ("VaultHands", "grip", "[I", true)
  | 5 => ("VaultHands", "gripped", "I", false)
  | _ => ("VaultHands", "alarmCount", "I", false)
def tyX4 : Nat → FieldType := fun k => match k with
  | 0 => .object "VaultHands$Keys"
  | 1 => .object "VaultHands$Vaults"
  | 2 => .object "VaultHands$Book"
  | 3 => .object "VaultHands$Tray"
  | 4 => .array .int
  | 5 => .int
  | _ => .int
abbrev wsX40 : List Cond := u_ws RX4 TX4 7
theorem nmX4 : ∀ a, a < 7 → ∀ b, b < 7 → a ≠ b → (TX4 a).2.1 ≠ (TX4 b).2.1 := by decide +kernel
theorem tyX4_ok : ∀ k, k < 7 → parseFieldDescriptor (TX4 k).2.2.1 = some (tyX4 k) := by decide +kernel
abbrev cX4_init : ByteArray := prog_1_method_1_code
def yX4_init : MethodName := ⟨RX4, "<init>", "()V"⟩
abbrev cX4_key : ByteArray := prog_1_method_2_code
def yX4_key : MethodName := ⟨RX4, "key", "(IZ)I"⟩
abbrev cX4_vault : ByteArray := prog_1_method_3_code
def yX4_vault : MethodName := ⟨RX4, "vault", "(I)I"⟩
abbrev cX4_hang : ByteArray := prog_1_method_4_code
def yX4_hang : MethodName := ⟨RX4, "hang", "(III)I"⟩
abbrev cX4_link : ByteArray := prog_1_method_5_code
def yX4_link : MethodName := ⟨RX4, "link", "(II)I"⟩
abbrev cX4_put : ByteArray := prog_1_method_6_code
def yX4_put : MethodName := ⟨RX4, "put", "(II)I"⟩
abbrev cX4_take : ByteArray := prog_1_method_7_code
def yX4_take : MethodName := ⟨RX4, "take", "(II)I"⟩
abbrev cX4_move : ByteArray := prog_1_method_8_code
def yX4_move : MethodName := ⟨RX4, "move", "(III)I"⟩
abbrev cX4_split : ByteArray := prog_1_method_9_code
def yX4_split : MethodName := ⟨RX4, "split", "(II)I"⟩
abbrev cX4_swap : ByteArray := prog_1_method_10_code
def yX4_swap : MethodName := ⟨RX4, "swap", "(I)I"⟩
abbrev cX4_polish : ByteArray := prog_1_method_11_code
def yX4_polish : MethodName := ⟨RX4, "polish", "(I)I"⟩
abbrev cX4_rounds : ByteArray := prog_1_method_12_code
def yX4_rounds : MethodName := ⟨RX4, "rounds", "(III)I"⟩
abbrev cX4_sweep : ByteArray := prog_1_method_13_code
def yX4_sweep : MethodName := ⟨RX4, "sweep", "(III)I"⟩
abbrev cX4_walk : ByteArray := prog_1_method_14_code
def yX4_walk : MethodName := ⟨RX4, "walk", "(III)I"⟩
abbrev cX4_order : ByteArray := prog_1_method_15_code
def yX4_order : MethodName := ⟨RX4, "order", "(IIII)I"⟩
abbrev cX4_run : ByteArray := prog_1_method_16_code
def yX4_run : MethodName := ⟨RX4, "run", "()I"⟩
abbrev cX4_sum : ByteArray := prog_1_method_17_code
def yX4_sum : MethodName := ⟨RX4, "sum", "(I)I"⟩
abbrev cX4_hung : ByteArray := prog_1_method_18_code
def yX4_hung : MethodName := ⟨RX4, "hung", "(II)I"⟩
abbrev cX4_wear : ByteArray := prog_1_method_19_code
def yX4_wear : MethodName := ⟨RX4, "wear", "(I)I"⟩
abbrev cX4_entries : ByteArray := prog_1_method_20_code
def yX4_entries : MethodName := ⟨RX4, "entries", "()I"⟩
abbrev cX4_entry : ByteArray := prog_1_method_21_code
def yX4_entry : MethodName := ⟨RX4, "entry", "(I)I"⟩
abbrev cX4_clear : ByteArray := prog_1_method_22_code
def yX4_clear : MethodName := ⟨RX4, "clear", "()I"⟩
abbrev cX4_alarms : ByteArray := prog_1_method_23_code
def yX4_alarms : MethodName := ⟨RX4, "alarms", "()I"⟩
abbrev cX4_orders : ByteArray := prog_1_method_24_code
def yX4_orders : MethodName := ⟨RX4, "orders", "()I"⟩
abbrev cX4_turnBoth : ByteArray := prog_1_method_25_code
def yX4_turnBoth : MethodName := ⟨RX4, "turnBoth", "(I)I"⟩
abbrev cX4_turnHand : ByteArray := prog_1_method_26_code
def yX4_turnHand : MethodName := ⟨RX4, "turnHand", "(II)I"⟩
abbrev cX4_turnKey : ByteArray := prog_1_method_27_code
def yX4_turnKey : MethodName := ⟨RX4, "turnKey", "(I)I"⟩
abbrev cX4_letGo : ByteArray := prog_1_method_28_code
def yX4_letGo : MethodName := ⟨RX4, "letGo", "(II)I"⟩
abbrev cX4_raiseAlarm : ByteArray := prog_1_method_29_code
def yX4_raiseAlarm : MethodName := ⟨RX4, "raiseAlarm", "(I)I"⟩
abbrev cX4_isOrder : ByteArray := prog_1_method_30_code
def yX4_isOrder : MethodName := ⟨RX4, "isOrder", "(IIII)Z"⟩
abbrev cX4_doOrder : ByteArray := prog_1_method_31_code
def yX4_doOrder : MethodName := ⟨RX4, "doOrder", "(I)Z"⟩
abbrev cX4_isWithin : ByteArray := prog_1_method_32_code
def yX4_isWithin : MethodName := ⟨RX4, "isWithin", "(III)Z"⟩
abbrev cX4_isAmount : ByteArray := prog_1_method_33_code
def yX4_isAmount : MethodName := ⟨RX4, "isAmount", "(I)Z"⟩
abbrev cX4_hasRow : ByteArray := prog_1_method_34_code
def yX4_hasRow : MethodName := ⟨RX4, "hasRow", "(II)Z"⟩
def RX5 : String := "VaultHandsModel"
def TX5 : u_T := fun k => match k with
  | 0 => ("VaultHandsModel", "teeth", "[I", true)
  | 1 => ("VaultHandsModel", "wears", "[I", true)
  | 2 => ("VaultHandsModel", "wearOf", "[I", true)
  | 3 => ("VaultHandsModel", "timesHeld", "[I", true)
  | 4 => ("VaultHandsModel", "keys", "I", false)
  | 5 => ("VaultHandsModel", "sums", "[I", true)
  | 6 => ("VaultHandsModel", "limits", "[I", true)
  | 7 => ("VaultHandsModel", "nexts", "[I", true)
  | 8 => ("VaultHandsModel", "hands", "[I", true)
  | 9 => ("VaultHandsModel", "vaults", "I", false)
  | 10 => ("VaultHandsModel", "pile", "[I", true)
  | 11 => ("VaultHandsModel", "height", "I", false)
  | 12 => ("VaultHandsModel", "book", "[I", true)
  | 13 => ("VaultHandsModel", "told", "I", false)
  | 14 => ("VaultHandsModel", "alarmed", "I", false)
  | 15 => ("VaultHandsModel", "ops", "[I", true)
  | 16 => ("VaultHandsModel", "first", "[I", true)
  | 17 => ("VaultHandsModel", "second", "[I", true)
  | 18 => ("VaultHandsModel", "amounts", "[I", true)
  | _ => ("VaultHandsModel", "lying", "I", false)
def tyX5 : Nat → FieldType := fun k => match k with
  | 0 => .array .int
  | 1 => .array .int
  | 2 => .array .int
  | 3 => .array .int
  | 4 => .int
  | 5 => .array .int
  | 6 => .array .int
  | 7 => .array .int
  | 8 => .array .int
  | 9 => .int
  | 10 => .array .int
  | 11 => .int
  | 12 => .array .int
  | 13 => .int
  | 14 => .int
  | 15 => .array .int
  | 16 => .array .int
  | 17 => .array .int
  | 18 => .array .int
  | _ => .int
abbrev wsX50 : List Cond := u_ws RX5 TX5 20
theorem nmX5 : ∀ a, a < 20 → ∀ b, b < 20 → a ≠ b → (TX5 a).2.1 ≠ (TX5 b).2.1 := by decide +kernel
theorem tyX5_ok : ∀ k, k < 20 → parseFieldDescriptor (TX5 k).2.2.1 = some (tyX5 k) := by decide +kernel
abbrev cX5_init : ByteArray := prog_7_method_1_code
def yX5_init : MethodName := ⟨RX5, "<init>", "()V"⟩
abbrev cX5_isKey : ByteArray := prog_7_method_2_code
def yX5_isKey : MethodName := ⟨RX5, "isKey", "(I)Z"⟩
abbrev cX5_isVault : ByteArray := prog_7_method_3_code
def yX5_isVault : MethodName := ⟨RX5, "isVault", "(I)Z"⟩
abbrev cX5_isAmount : ByteArray := prog_7_method_4_code
def yX5_isAmount : MethodName := ⟨RX5, "isAmount", "(I)Z"⟩
abbrev cX5_isHand : ByteArray := prog_7_method_5_code
def yX5_isHand : MethodName := ⟨RX5, "isHand", "(I)Z"⟩
abbrev cX5_enter : ByteArray := prog_7_method_6_code
def yX5_enter : MethodName := ⟨RX5, "enter", "(I)V"⟩
abbrev cX5_key : ByteArray := prog_7_method_7_code
def yX5_key : MethodName := ⟨RX5, "key", "(IZ)I"⟩
abbrev cX5_vault : ByteArray := prog_7_method_8_code
def yX5_vault : MethodName := ⟨RX5, "vault", "(I)I"⟩
abbrev cX5_hang : ByteArray := prog_7_method_9_code
def yX5_hang : MethodName := ⟨RX5, "hang", "(III)I"⟩
abbrev cX5_link : ByteArray := prog_7_method_10_code
def yX5_link : MethodName := ⟨RX5, "link", "(II)I"⟩
abbrev cX5_dropTop : ByteArray := prog_7_method_11_code
def yX5_dropTop : MethodName := ⟨RX5, "dropTop", "(I)V"⟩
abbrev cX5_dropAll : ByteArray := prog_7_method_12_code
def yX5_dropAll : MethodName := ⟨RX5, "dropAll", "(I)V"⟩
abbrev cX5_alarm : ByteArray := prog_7_method_13_code
def yX5_alarm : MethodName := ⟨RX5, "alarm", "()V"⟩
abbrev cX5_turnKey : ByteArray := prog_7_method_14_code
def yX5_turnKey : MethodName := ⟨RX5, "turnKey", "(I)I"⟩
abbrev cX5_turnHand : ByteArray := prog_7_method_15_code
def yX5_turnHand : MethodName := ⟨RX5, "turnHand", "(II)I"⟩
abbrev cX5_turnBoth : ByteArray := prog_7_method_16_code
def yX5_turnBoth : MethodName := ⟨RX5, "turnBoth", "(I)I"⟩
abbrev cX5_ended : ByteArray := prog_7_method_17_code
def yX5_ended : MethodName := ⟨RX5, "ended", "(I)I"⟩
abbrev cX5_answered : ByteArray := prog_7_method_18_code
def yX5_answered : MethodName := ⟨RX5, "answered", "(I)I"⟩
abbrev cX5_alarmed : ByteArray := prog_7_method_19_code
def yX5_alarmed : MethodName := ⟨RX5, "alarmed", "(I)I"⟩
abbrev cX5_put : ByteArray := prog_7_method_20_code
def yX5_put : MethodName := ⟨RX5, "put", "(II)I"⟩
abbrev cX5_take : ByteArray := prog_7_method_21_code
def yX5_take : MethodName := ⟨RX5, "take", "(II)I"⟩
abbrev cX5_move : ByteArray := prog_7_method_22_code
def yX5_move : MethodName := ⟨RX5, "move", "(III)I"⟩
abbrev cX5_split : ByteArray := prog_7_method_23_code
def yX5_split : MethodName := ⟨RX5, "split", "(II)I"⟩
abbrev cX5_swap : ByteArray := prog_7_method_24_code
def yX5_swap : MethodName := ⟨RX5, "swap", "(I)I"⟩
abbrev cX5_polish : ByteArray := prog_7_method_25_code
def yX5_polish : MethodName := ⟨RX5, "polish", "(I)I"⟩
abbrev cX5_areThere : ByteArray := prog_7_method_26_code
def yX5_areThere : MethodName := ⟨RX5, "areThere", "(II)Z"⟩
abbrev cX5_rounds : ByteArray := prog_7_method_27_code
def yX5_rounds : MethodName := ⟨RX5, "rounds", "(III)I"⟩
abbrev cX5_sweep : ByteArray := prog_7_method_28_code
def yX5_sweep : MethodName := ⟨RX5, "sweep", "(III)I"⟩
abbrev cX5_walk : ByteArray := prog_7_method_29_code
def yX5_walk : MethodName := ⟨RX5, "walk", "(III)I"⟩
abbrev cX5_isOrder : ByteArray := prog_7_method_30_code
def yX5_isOrder : MethodName := ⟨RX5, "isOrder", "(IIII)Z"⟩
abbrev cX5_order : ByteArray := prog_7_method_31_code
def yX5_order : MethodName := ⟨RX5, "order", "(IIII)I"⟩
abbrev cX5_carriedOut : ByteArray := prog_7_method_32_code
def yX5_carriedOut : MethodName := ⟨RX5, "carriedOut", "(I)I"⟩
abbrev cX5_run : ByteArray := prog_7_method_33_code
def yX5_run : MethodName := ⟨RX5, "run", "()I"⟩
abbrev cX5_sum : ByteArray := prog_7_method_34_code
def yX5_sum : MethodName := ⟨RX5, "sum", "(I)I"⟩
abbrev cX5_hung : ByteArray := prog_7_method_35_code
def yX5_hung : MethodName := ⟨RX5, "hung", "(II)I"⟩
abbrev cX5_wear : ByteArray := prog_7_method_36_code
def yX5_wear : MethodName := ⟨RX5, "wear", "(I)I"⟩
abbrev cX5_entries : ByteArray := prog_7_method_37_code
def yX5_entries : MethodName := ⟨RX5, "entries", "()I"⟩
abbrev cX5_entry : ByteArray := prog_7_method_38_code
def yX5_entry : MethodName := ⟨RX5, "entry", "(I)I"⟩
abbrev cX5_clear : ByteArray := prog_7_method_39_code
def yX5_clear : MethodName := ⟨RX5, "clear", "()I"⟩
abbrev cX5_alarms : ByteArray := prog_7_method_40_code
def yX5_alarms : MethodName := ⟨RX5, "alarms", "()I"⟩
abbrev cX5_orders : ByteArray := prog_7_method_41_code
def yX5_orders : MethodName := ⟨RX5, "orders", "()I"⟩
def RJ9 : String := "java/lang/Math"
def TJ9 : u_T := fun k => match k with
  | _ => ("", "", "", false)
def tyJ9 : Nat → FieldType := fun k => match k with
  | _ => .int
abbrev wsJ90 : List Cond := u_ws RJ9 TJ9 0
theorem nmJ9 : ∀ a, a < 0 → ∀ b, b < 0 → a ≠ b → (TJ9 a).2.1 ≠ (TJ9 b).2.1 := by decide +kernel
theorem tyJ9_ok : ∀ k, k < 0 → parseFieldDescriptor (TJ9 k).2.2.1 = some (tyJ9 k) := by decide +kernel
abbrev cJ9_min_7cf53 : ByteArray := prog_8_method_69_code
def yJ9_min_7cf53 : MethodName := ⟨RJ9, "min", "(II)I"⟩
def RL : String := "VaultHandsLaw"
abbrev cL_law : ByteArray := code
def yL_law : MethodName := ⟨RL, "law", "([I)Z"⟩
abbrev vwCl : List vw_C := [(RX0, TX0, 2), (RX1, TX1, 5), (RX2, TX2, 5), (RX3, TX3, 6), (RX4, TX4, 7), (RX5, TX5, 20)]
end
section
theorem dX0_init_0 : decode cX0_init 0 = .ok (.aload_n 0, 1) := by decide +kernel
theorem dX0_init_1 : decode cX0_init 1 = .ok (.invokespecial 3, 3) := by decide +kernel
theorem dX0_init_4 : decode cX0_init 4 = .ok (.aload_n 0, 1) := by decide +kernel
theorem dX0_init_5 : decode cX0_init 5 = .ok (.sipush 400, 3) := by decide +kernel
theorem dX0_init_8 : decode cX0_init 8 = .ok (.newarray .int, 2) := by decide +kernel
theorem dX0_init_10 : decode cX0_init 10 = .ok (.putfield 9, 3) := by decide +kernel
theorem dX0_init_13 : decode cX0_init 13 = .ok (.aload_n 0, 1) := by decide +kernel
theorem dX0_init_14 : decode cX0_init 14 = .ok (.iconst 0, 1) := by decide +kernel
theorem dX0_init_15 : decode cX0_init 15 = .ok (.putfield 15, 3) := by decide +kernel
theorem dX0_init_18 : decode cX0_init 18 = .ok (.return_, 1) := by decide +kernel
theorem dX0_write_0 : decode cX0_write 0 = .ok (.aload_n 0, 1) := by decide +kernel
theorem dX0_write_1 : decode cX0_write 1 = .ok (.getfield 15, 3) := by decide +kernel
theorem dX0_write_4 : decode cX0_write 4 = .ok (.ifCond .lt 23, 3) := by decide +kernel
theorem dX0_write_7 : decode cX0_write 7 = .ok (.aload_n 0, 1) := by decide +kernel
theorem dX0_write_8 : decode cX0_write 8 = .ok (.getfield 15, 3) := by decide +kernel
theorem dX0_write_11 : decode cX0_write 11 = .ok (.sipush 400, 3) := by decide +kernel
theorem dX0_write_14 : decode cX0_write 14 = .ok (.if_icmp .ge 13, 3) := by decide +kernel
theorem dX0_write_17 : decode cX0_write 17 = .ok (.aload_n 0, 1) := by decide +kernel
theorem dX0_write_18 : decode cX0_write 18 = .ok (.getfield 9, 3) := by decide +kernel
theorem dX0_write_21 : decode cX0_write 21 = .ok (.aload_n 0, 1) := by decide +kernel
theorem dX0_write_22 : decode cX0_write 22 = .ok (.getfield 15, 3) := by decide +kernel
theorem dX0_write_25 : decode cX0_write 25 = .ok (.iload_n 1, 1) := by decide +kernel
theorem dX0_write_26 : decode cX0_write 26 = .ok (.iastore, 1) := by decide +kernel
theorem dX0_write_27 : decode cX0_write 27 = .ok (.aload_n 0, 1) := by decide +kernel
theorem dX0_write_28 : decode cX0_write 28 = .ok (.dup, 1) := by decide +kernel
theorem dX0_write_29 : decode cX0_write 29 = .ok (.getfield 15, 3) := by decide +kernel
theorem dX0_write_32 : decode cX0_write 32 = .ok (.iconst 1, 1) := by decide +kernel
theorem dX0_write_33 : decode cX0_write 33 = .ok (.iadd, 1) := by decide +kernel
theorem dX0_write_34 : decode cX0_write 34 = .ok (.putfield 15, 3) := by decide +kernel
theorem dX0_write_37 : decode cX0_write 37 = .ok (.return_, 1) := by decide +kernel
theorem dX0_read_0 : decode cX0_read 0 = .ok (.iload_n 1, 1) := by decide +kernel
theorem dX0_read_1 : decode cX0_read 1 = .ok (.ifCond .lt 27, 3) := by decide +kernel
theorem dX0_read_4 : decode cX0_read 4 = .ok (.iload_n 1, 1) := by decide +kernel
theorem dX0_read_5 : decode cX0_read 5 = .ok (.aload_n 0, 1) := by decide +kernel
theorem dX0_read_6 : decode cX0_read 6 = .ok (.getfield 15, 3) := by decide +kernel
theorem dX0_read_9 : decode cX0_read 9 = .ok (.if_icmp .ge 19, 3) := by decide +kernel
theorem dX0_read_12 : decode cX0_read 12 = .ok (.iload_n 1, 1) := by decide +kernel
theorem dX0_read_13 : decode cX0_read 13 = .ok (.sipush 400, 3) := by decide +kernel
theorem dX0_read_16 : decode cX0_read 16 = .ok (.if_icmp .ge 12, 3) := by decide +kernel
theorem dX0_read_19 : decode cX0_read 19 = .ok (.aload_n 0, 1) := by decide +kernel
theorem dX0_read_20 : decode cX0_read 20 = .ok (.getfield 9, 3) := by decide +kernel
theorem dX0_read_23 : decode cX0_read 23 = .ok (.iload_n 1, 1) := by decide +kernel
theorem dX0_read_24 : decode cX0_read 24 = .ok (.iaload, 1) := by decide +kernel
theorem dX0_read_25 : decode cX0_read 25 = .ok (.goto 4, 3) := by decide +kernel
theorem dX0_read_28 : decode cX0_read 28 = .ok (.iconst (-1), 1) := by decide +kernel
theorem dX0_read_29 : decode cX0_read 29 = .ok (.ireturn, 1) := by decide +kernel
theorem dX1_init_0 : decode cX1_init 0 = .ok (.aload_n 0, 1) := by decide +kernel
theorem dX1_init_1 : decode cX1_init 1 = .ok (.invokespecial 3, 3) := by decide +kernel
theorem dX1_init_4 : decode cX1_init 4 = .ok (.aload_n 0, 1) := by decide +kernel
theorem dX1_init_5 : decode cX1_init 5 = .ok (.bipush 40, 2) := by decide +kernel
theorem dX1_init_7 : decode cX1_init 7 = .ok (.newarray .int, 2) := by decide +kernel
theorem dX1_init_9 : decode cX1_init 9 = .ok (.putfield 9, 3) := by decide +kernel
theorem dX1_init_12 : decode cX1_init 12 = .ok (.aload_n 0, 1) := by decide +kernel
theorem dX1_init_13 : decode cX1_init 13 = .ok (.bipush 40, 2) := by decide +kernel
theorem dX1_init_15 : decode cX1_init 15 = .ok (.newarray .int, 2) := by decide +kernel
theorem dX1_init_17 : decode cX1_init 17 = .ok (.putfield 15, 3) := by decide +kernel
theorem dX1_init_20 : decode cX1_init 20 = .ok (.aload_n 0, 1) := by decide +kernel
theorem dX1_init_21 : decode cX1_init 21 = .ok (.bipush 40, 2) := by decide +kernel
theorem dX1_init_23 : decode cX1_init 23 = .ok (.newarray .int, 2) := by decide +kernel
theorem dX1_init_25 : decode cX1_init 25 = .ok (.putfield 18, 3) := by decide +kernel
theorem dX1_init_28 : decode cX1_init 28 = .ok (.aload_n 0, 1) := by decide +kernel
theorem dX1_init_29 : decode cX1_init 29 = .ok (.bipush 40, 2) := by decide +kernel
theorem dX1_init_31 : decode cX1_init 31 = .ok (.newarray .int, 2) := by decide +kernel
theorem dX1_init_33 : decode cX1_init 33 = .ok (.putfield 21, 3) := by decide +kernel
theorem dX1_init_36 : decode cX1_init 36 = .ok (.aload_n 0, 1) := by decide +kernel
theorem dX1_init_37 : decode cX1_init 37 = .ok (.iconst 0, 1) := by decide +kernel
theorem dX1_init_38 : decode cX1_init 38 = .ok (.putfield 24, 3) := by decide +kernel
theorem dX1_init_41 : decode cX1_init 41 = .ok (.return_, 1) := by decide +kernel
theorem dX1_has_0 : decode cX1_has 0 = .ok (.iload_n 1, 1) := by decide +kernel
theorem dX1_has_1 : decode cX1_has 1 = .ok (.ifCond .lt 15, 3) := by decide +kernel
theorem dX1_has_4 : decode cX1_has 4 = .ok (.iload_n 1, 1) := by decide +kernel
theorem dX1_has_5 : decode cX1_has 5 = .ok (.aload_n 0, 1) := by decide +kernel
theorem dX1_has_6 : decode cX1_has 6 = .ok (.getfield 24, 3) := by decide +kernel
theorem dX1_has_9 : decode cX1_has 9 = .ok (.if_icmp .ge 7, 3) := by decide +kernel
theorem dX1_has_12 : decode cX1_has 12 = .ok (.iconst 1, 1) := by decide +kernel
theorem dX1_has_13 : decode cX1_has 13 = .ok (.goto 4, 3) := by decide +kernel
theorem dX1_has_16 : decode cX1_has 16 = .ok (.iconst 0, 1) := by decide +kernel
theorem dX1_has_17 : decode cX1_has 17 = .ok (.ireturn, 1) := by decide +kernel
theorem dX1_add_0 : decode cX1_add 0 = .ok (.aload_n 0, 1) := by decide +kernel
theorem dX1_add_1 : decode cX1_add 1 = .ok (.getfield 24, 3) := by decide +kernel
theorem dX1_add_4 : decode cX1_add 4 = .ok (.bipush 40, 2) := by decide +kernel
theorem dX1_add_6 : decode cX1_add 6 = .ok (.if_icmp .lt 6, 3) := by decide +kernel
theorem dX1_add_9 : decode cX1_add 9 = .ok (.bipush (-3), 2) := by decide +kernel
theorem dX1_add_11 : decode cX1_add 11 = .ok (.ireturn, 1) := by decide +kernel
theorem dX1_add_12 : decode cX1_add 12 = .ok (.aload_n 0, 1) := by decide +kernel
theorem dX1_add_13 : decode cX1_add 13 = .ok (.getfield 9, 3) := by decide +kernel
theorem dX1_add_16 : decode cX1_add 16 = .ok (.aload_n 0, 1) := by decide +kernel
theorem dX1_add_17 : decode cX1_add 17 = .ok (.getfield 24, 3) := by decide +kernel
theorem dX1_add_20 : decode cX1_add 20 = .ok (.iload_n 1, 1) := by decide +kernel
theorem dX1_add_21 : decode cX1_add 21 = .ok (.iastore, 1) := by decide +kernel
theorem dX1_add_22 : decode cX1_add 22 = .ok (.aload_n 0, 1) := by decide +kernel
theorem dX1_add_23 : decode cX1_add 23 = .ok (.getfield 15, 3) := by decide +kernel
theorem dX1_add_26 : decode cX1_add 26 = .ok (.aload_n 0, 1) := by decide +kernel
theorem dX1_add_27 : decode cX1_add 27 = .ok (.getfield 24, 3) := by decide +kernel
theorem dX1_add_30 : decode cX1_add 30 = .ok (.iload_n 2, 1) := by decide +kernel
theorem dX1_add_31 : decode cX1_add 31 = .ok (.iastore, 1) := by decide +kernel
theorem dX1_add_32 : decode cX1_add 32 = .ok (.aload_n 0, 1) := by decide +kernel
theorem dX1_add_33 : decode cX1_add 33 = .ok (.dup, 1) := by decide +kernel
theorem dX1_add_34 : decode cX1_add 34 = .ok (.getfield 24, 3) := by decide +kernel
theorem dX1_add_37 : decode cX1_add 37 = .ok (.iconst 1, 1) := by decide +kernel
theorem dX1_add_38 : decode cX1_add 38 = .ok (.iadd, 1) := by decide +kernel
theorem dX1_add_39 : decode cX1_add 39 = .ok (.putfield 24, 3) := by decide +kernel
theorem dX1_add_42 : decode cX1_add 42 = .ok (.aload_n 0, 1) := by decide +kernel
theorem dX1_add_43 : decode cX1_add 43 = .ok (.getfield 24, 3) := by decide +kernel
theorem dX1_add_46 : decode cX1_add 46 = .ok (.iconst 1, 1) := by decide +kernel
theorem dX1_add_47 : decode cX1_add 47 = .ok (.isub, 1) := by decide +kernel
theorem dX1_add_48 : decode cX1_add 48 = .ok (.ireturn, 1) := by decide +kernel
theorem dX2_init_0 : decode cX2_init 0 = .ok (.aload_n 0, 1) := by decide +kernel
theorem dX2_init_1 : decode cX2_init 1 = .ok (.invokespecial 3, 3) := by decide +kernel
theorem dX2_init_4 : decode cX2_init 4 = .ok (.aload_n 0, 1) := by decide +kernel
theorem dX2_init_5 : decode cX2_init 5 = .ok (.bipush 32, 2) := by decide +kernel
theorem dX2_init_7 : decode cX2_init 7 = .ok (.newarray .int, 2) := by decide +kernel
theorem dX2_init_9 : decode cX2_init 9 = .ok (.putfield 9, 3) := by decide +kernel
theorem dX2_init_12 : decode cX2_init 12 = .ok (.aload_n 0, 1) := by decide +kernel
theorem dX2_init_13 : decode cX2_init 13 = .ok (.bipush 32, 2) := by decide +kernel
theorem dX2_init_15 : decode cX2_init 15 = .ok (.newarray .int, 2) := by decide +kernel
theorem dX2_init_17 : decode cX2_init 17 = .ok (.putfield 15, 3) := by decide +kernel
theorem dX2_init_20 : decode cX2_init 20 = .ok (.aload_n 0, 1) := by decide +kernel
theorem dX2_init_21 : decode cX2_init 21 = .ok (.bipush 32, 2) := by decide +kernel
theorem dX2_init_23 : decode cX2_init 23 = .ok (.newarray .int, 2) := by decide +kernel
theorem dX2_init_25 : decode cX2_init 25 = .ok (.putfield 18, 3) := by decide +kernel
theorem dX2_init_28 : decode cX2_init 28 = .ok (.aload_n 0, 1) := by decide +kernel
theorem dX2_init_29 : decode cX2_init 29 = .ok (.bipush 32, 2) := by decide +kernel
theorem dX2_init_31 : decode cX2_init 31 = .ok (.newarray .int, 2) := by decide +kernel
theorem dX2_init_33 : decode cX2_init 33 = .ok (.putfield 21, 3) := by decide +kernel
theorem dX2_init_36 : decode cX2_init 36 = .ok (.aload_n 0, 1) := by decide +kernel
theorem dX2_init_37 : decode cX2_init 37 = .ok (.iconst 0, 1) := by decide +kernel
theorem dX2_init_38 : decode cX2_init 38 = .ok (.putfield 24, 3) := by decide +kernel
theorem dX2_init_41 : decode cX2_init 41 = .ok (.return_, 1) := by decide +kernel
theorem dX2_add_0 : decode cX2_add 0 = .ok (.aload_n 0, 1) := by decide +kernel
theorem dX2_add_1 : decode cX2_add 1 = .ok (.getfield 24, 3) := by decide +kernel
theorem dX2_add_4 : decode cX2_add 4 = .ok (.bipush 32, 2) := by decide +kernel
theorem dX2_add_6 : decode cX2_add 6 = .ok (.if_icmp .lt 6, 3) := by decide +kernel
theorem dX2_add_9 : decode cX2_add 9 = .ok (.bipush (-3), 2) := by decide +kernel
theorem dX2_add_11 : decode cX2_add 11 = .ok (.ireturn, 1) := by decide +kernel
theorem dX2_add_12 : decode cX2_add 12 = .ok (.aload_n 0, 1) := by decide +kernel
theorem dX2_add_13 : decode cX2_add 13 = .ok (.getfield 9, 3) := by decide +kernel
theorem dX2_add_16 : decode cX2_add 16 = .ok (.aload_n 0, 1) := by decide +kernel
theorem dX2_add_17 : decode cX2_add 17 = .ok (.getfield 24, 3) := by decide +kernel
theorem dX2_add_20 : decode cX2_add 20 = .ok (.iload_n 1, 1) := by decide +kernel
theorem dX2_add_21 : decode cX2_add 21 = .ok (.iastore, 1) := by decide +kernel
theorem dX2_add_22 : decode cX2_add 22 = .ok (.aload_n 0, 1) := by decide +kernel
theorem dX2_add_23 : decode cX2_add 23 = .ok (.getfield 15, 3) := by decide +kernel
theorem dX2_add_26 : decode cX2_add 26 = .ok (.aload_n 0, 1) := by decide +kernel
theorem dX2_add_27 : decode cX2_add 27 = .ok (.getfield 24, 3) := by decide +kernel
theorem dX2_add_30 : decode cX2_add 30 = .ok (.iload_n 2, 1) := by decide +kernel
theorem dX2_add_31 : decode cX2_add 31 = .ok (.iastore, 1) := by decide +kernel
theorem dX2_add_32 : decode cX2_add 32 = .ok (.aload_n 0, 1) := by decide +kernel
theorem dX2_add_33 : decode cX2_add 33 = .ok (.getfield 18, 3) := by decide +kernel
theorem dX2_add_36 : decode cX2_add 36 = .ok (.aload_n 0, 1) := by decide +kernel
theorem dX2_add_37 : decode cX2_add 37 = .ok (.getfield 24, 3) := by decide +kernel
theorem dX2_add_40 : decode cX2_add 40 = .ok (.iload_n 3, 1) := by decide +kernel
theorem dX2_add_41 : decode cX2_add 41 = .ok (.iastore, 1) := by decide +kernel
theorem dX2_add_42 : decode cX2_add 42 = .ok (.aload_n 0, 1) := by decide +kernel
theorem dX2_add_43 : decode cX2_add 43 = .ok (.getfield 21, 3) := by decide +kernel
theorem dX2_add_46 : decode cX2_add 46 = .ok (.aload_n 0, 1) := by decide +kernel
theorem dX2_add_47 : decode cX2_add 47 = .ok (.getfield 24, 3) := by decide +kernel
theorem dX2_add_50 : decode cX2_add 50 = .ok (.iload 4, 2) := by decide +kernel
theorem dX2_add_52 : decode cX2_add 52 = .ok (.iastore, 1) := by decide +kernel
theorem dX2_add_53 : decode cX2_add 53 = .ok (.aload_n 0, 1) := by decide +kernel
theorem dX2_add_54 : decode cX2_add 54 = .ok (.dup, 1) := by decide +kernel
theorem dX2_add_55 : decode cX2_add 55 = .ok (.getfield 24, 3) := by decide +kernel
theorem dX2_add_58 : decode cX2_add 58 = .ok (.iconst 1, 1) := by decide +kernel
theorem dX2_add_59 : decode cX2_add 59 = .ok (.iadd, 1) := by decide +kernel
theorem dX2_add_60 : decode cX2_add 60 = .ok (.putfield 24, 3) := by decide +kernel
theorem dX2_add_63 : decode cX2_add 63 = .ok (.aload_n 0, 1) := by decide +kernel
theorem dX2_add_64 : decode cX2_add 64 = .ok (.getfield 24, 3) := by decide +kernel
theorem dX2_add_67 : decode cX2_add 67 = .ok (.ireturn, 1) := by decide +kernel
theorem dX3_init_0 : decode cX3_init 0 = .ok (.aload_n 0, 1) := by decide +kernel
theorem dX3_init_1 : decode cX3_init 1 = .ok (.invokespecial 3, 3) := by decide +kernel
theorem dX3_init_4 : decode cX3_init 4 = .ok (.aload_n 0, 1) := by decide +kernel
theorem dX3_init_5 : decode cX3_init 5 = .ok (.bipush 12, 2) := by decide +kernel
theorem dX3_init_7 : decode cX3_init 7 = .ok (.newarray .int, 2) := by decide +kernel
theorem dX3_init_9 : decode cX3_init 9 = .ok (.putfield 9, 3) := by decide +kernel
theorem dX3_init_12 : decode cX3_init 12 = .ok (.aload_n 0, 1) := by decide +kernel
theorem dX3_init_13 : decode cX3_init 13 = .ok (.bipush 12, 2) := by decide +kernel
theorem dX3_init_15 : decode cX3_init 15 = .ok (.newarray .int, 2) := by decide +kernel
theorem dX3_init_17 : decode cX3_init 17 = .ok (.putfield 15, 3) := by decide +kernel
theorem dX3_init_20 : decode cX3_init 20 = .ok (.aload_n 0, 1) := by decide +kernel
theorem dX3_init_21 : decode cX3_init 21 = .ok (.bipush 12, 2) := by decide +kernel
theorem dX3_init_23 : decode cX3_init 23 = .ok (.newarray .int, 2) := by decide +kernel
theorem dX3_init_25 : decode cX3_init 25 = .ok (.putfield 18, 3) := by decide +kernel
theorem dX3_init_28 : decode cX3_init 28 = .ok (.aload_n 0, 1) := by decide +kernel
theorem dX3_init_29 : decode cX3_init 29 = .ok (.bipush 12, 2) := by decide +kernel
theorem dX3_init_31 : decode cX3_init 31 = .ok (.newarray .int, 2) := by decide +kernel
theorem dX3_init_33 : decode cX3_init 33 = .ok (.putfield 21, 3) := by decide +kernel
theorem dX3_init_36 : decode cX3_init 36 = .ok (.aload_n 0, 1) := by decide +kernel
theorem dX3_init_37 : decode cX3_init 37 = .ok (.bipush 12, 2) := by decide +kernel
theorem dX3_init_39 : decode cX3_init 39 = .ok (.newarray .int, 2) := by decide +kernel
theorem dX3_init_41 : decode cX3_init 41 = .ok (.putfield 24, 3) := by decide +kernel
theorem dX3_init_44 : decode cX3_init 44 = .ok (.aload_n 0, 1) := by decide +kernel
theorem dX3_init_45 : decode cX3_init 45 = .ok (.iconst 0, 1) := by decide +kernel
theorem dX3_init_46 : decode cX3_init 46 = .ok (.putfield 27, 3) := by decide +kernel
theorem dX3_init_49 : decode cX3_init 49 = .ok (.return_, 1) := by decide +kernel
theorem dX3_has_0 : decode cX3_has 0 = .ok (.iload_n 1, 1) := by decide +kernel
theorem dX3_has_1 : decode cX3_has 1 = .ok (.ifCond .lt 15, 3) := by decide +kernel
theorem dX3_has_4 : decode cX3_has 4 = .ok (.iload_n 1, 1) := by decide +kernel
theorem dX3_has_5 : decode cX3_has 5 = .ok (.aload_n 0, 1) := by decide +kernel
theorem dX3_has_6 : decode cX3_has 6 = .ok (.getfield 27, 3) := by decide +kernel
theorem dX3_has_9 : decode cX3_has 9 = .ok (.if_icmp .ge 7, 3) := by decide +kernel
theorem dX3_has_12 : decode cX3_has 12 = .ok (.iconst 1, 1) := by decide +kernel
theorem dX3_has_13 : decode cX3_has 13 = .ok (.goto 4, 3) := by decide +kernel
theorem dX3_has_16 : decode cX3_has 16 = .ok (.iconst 0, 1) := by decide +kernel
theorem dX3_has_17 : decode cX3_has 17 = .ok (.ireturn, 1) := by decide +kernel
theorem dX3_hasHand_0 : decode cX3_hasHand 0 = .ok (.aload_n 0, 1) := by decide +kernel
theorem dX3_hasHand_1 : decode cX3_hasHand 1 = .ok (.iload_n 1, 1) := by decide +kernel
theorem dX3_hasHand_2 : decode cX3_hasHand 2 = .ok (.invokevirtual 31, 3) := by decide +kernel
theorem dX3_hasHand_5 : decode cX3_hasHand 5 = .ok (.ifCond .eq 16, 3) := by decide +kernel
theorem dX3_hasHand_8 : decode cX3_hasHand 8 = .ok (.iload_n 2, 1) := by decide +kernel
theorem dX3_hasHand_9 : decode cX3_hasHand 9 = .ok (.ifCond .eq 8, 3) := by decide +kernel
theorem dX3_hasHand_12 : decode cX3_hasHand 12 = .ok (.iload_n 2, 1) := by decide +kernel
theorem dX3_hasHand_13 : decode cX3_hasHand 13 = .ok (.iconst 1, 1) := by decide +kernel
theorem dX3_hasHand_14 : decode cX3_hasHand 14 = .ok (.if_icmp .ne 7, 3) := by decide +kernel
theorem dX3_hasHand_17 : decode cX3_hasHand 17 = .ok (.iconst 1, 1) := by decide +kernel
theorem dX3_hasHand_18 : decode cX3_hasHand 18 = .ok (.goto 4, 3) := by decide +kernel
theorem dX3_hasHand_21 : decode cX3_hasHand 21 = .ok (.iconst 0, 1) := by decide +kernel
theorem dX3_hasHand_22 : decode cX3_hasHand 22 = .ok (.ireturn, 1) := by decide +kernel
theorem dX3_add_0 : decode cX3_add 0 = .ok (.aload_n 0, 1) := by decide +kernel
theorem dX3_add_1 : decode cX3_add 1 = .ok (.getfield 27, 3) := by decide +kernel
theorem dX3_add_4 : decode cX3_add 4 = .ok (.bipush 12, 2) := by decide +kernel
theorem dX3_add_6 : decode cX3_add 6 = .ok (.if_icmp .lt 6, 3) := by decide +kernel
theorem dX3_add_9 : decode cX3_add 9 = .ok (.bipush (-3), 2) := by decide +kernel
theorem dX3_add_11 : decode cX3_add 11 = .ok (.ireturn, 1) := by decide +kernel
theorem dX3_add_12 : decode cX3_add 12 = .ok (.aload_n 0, 1) := by decide +kernel
theorem dX3_add_13 : decode cX3_add 13 = .ok (.getfield 9, 3) := by decide +kernel
theorem dX3_add_16 : decode cX3_add 16 = .ok (.aload_n 0, 1) := by decide +kernel
theorem dX3_add_17 : decode cX3_add 17 = .ok (.getfield 27, 3) := by decide +kernel
theorem dX3_add_20 : decode cX3_add 20 = .ok (.iload_n 1, 1) := by decide +kernel
theorem dX3_add_21 : decode cX3_add 21 = .ok (.iastore, 1) := by decide +kernel
theorem dX3_add_22 : decode cX3_add 22 = .ok (.aload_n 0, 1) := by decide +kernel
theorem dX3_add_23 : decode cX3_add 23 = .ok (.getfield 18, 3) := by decide +kernel
theorem dX3_add_26 : decode cX3_add 26 = .ok (.aload_n 0, 1) := by decide +kernel
theorem dX3_add_27 : decode cX3_add 27 = .ok (.getfield 27, 3) := by decide +kernel
theorem dX3_add_30 : decode cX3_add 30 = .ok (.iconst (-1), 1) := by decide +kernel
theorem dX3_add_31 : decode cX3_add 31 = .ok (.iastore, 1) := by decide +kernel
theorem dX3_add_32 : decode cX3_add 32 = .ok (.aload_n 0, 1) := by decide +kernel
theorem dX3_add_33 : decode cX3_add 33 = .ok (.getfield 21, 3) := by decide +kernel
theorem dX3_add_36 : decode cX3_add 36 = .ok (.aload_n 0, 1) := by decide +kernel
theorem dX3_add_37 : decode cX3_add 37 = .ok (.getfield 27, 3) := by decide +kernel
theorem dX3_add_40 : decode cX3_add 40 = .ok (.iconst (-1), 1) := by decide +kernel
theorem dX3_add_41 : decode cX3_add 41 = .ok (.iastore, 1) := by decide +kernel
theorem dX3_add_42 : decode cX3_add 42 = .ok (.aload_n 0, 1) := by decide +kernel
theorem dX3_add_43 : decode cX3_add 43 = .ok (.getfield 24, 3) := by decide +kernel
theorem dX3_add_46 : decode cX3_add 46 = .ok (.aload_n 0, 1) := by decide +kernel
theorem dX3_add_47 : decode cX3_add 47 = .ok (.getfield 27, 3) := by decide +kernel
theorem dX3_add_50 : decode cX3_add 50 = .ok (.iconst (-1), 1) := by decide +kernel
theorem dX3_add_51 : decode cX3_add 51 = .ok (.iastore, 1) := by decide +kernel
theorem dX3_add_52 : decode cX3_add 52 = .ok (.aload_n 0, 1) := by decide +kernel
theorem dX3_add_53 : decode cX3_add 53 = .ok (.dup, 1) := by decide +kernel
theorem dX3_add_54 : decode cX3_add 54 = .ok (.getfield 27, 3) := by decide +kernel
theorem dX3_add_57 : decode cX3_add 57 = .ok (.iconst 1, 1) := by decide +kernel
theorem dX3_add_58 : decode cX3_add 58 = .ok (.iadd, 1) := by decide +kernel
theorem dX3_add_59 : decode cX3_add 59 = .ok (.putfield 27, 3) := by decide +kernel
theorem dX3_add_62 : decode cX3_add 62 = .ok (.aload_n 0, 1) := by decide +kernel
theorem dX3_add_63 : decode cX3_add 63 = .ok (.getfield 27, 3) := by decide +kernel
theorem dX3_add_66 : decode cX3_add 66 = .ok (.iconst 1, 1) := by decide +kernel
theorem dX3_add_67 : decode cX3_add 67 = .ok (.isub, 1) := by decide +kernel
theorem dX3_add_68 : decode cX3_add 68 = .ok (.ireturn, 1) := by decide +kernel
theorem dX3_keyAt_0 : decode cX3_keyAt 0 = .ok (.aload_n 0, 1) := by decide +kernel
theorem dX3_keyAt_1 : decode cX3_keyAt 1 = .ok (.iload_n 1, 1) := by decide +kernel
theorem dX3_keyAt_2 : decode cX3_keyAt 2 = .ok (.invokevirtual 31, 3) := by decide +kernel
theorem dX3_keyAt_5 : decode cX3_keyAt 5 = .ok (.ifCond .ne 5, 3) := by decide +kernel
theorem dX3_keyAt_8 : decode cX3_keyAt 8 = .ok (.iconst (-1), 1) := by decide +kernel
theorem dX3_keyAt_9 : decode cX3_keyAt 9 = .ok (.ireturn, 1) := by decide +kernel
theorem dX3_keyAt_10 : decode cX3_keyAt 10 = .ok (.iload_n 2, 1) := by decide +kernel
theorem dX3_keyAt_11 : decode cX3_keyAt 11 = .ok (.ifCond .ne 12, 3) := by decide +kernel
theorem dX3_keyAt_14 : decode cX3_keyAt 14 = .ok (.aload_n 0, 1) := by decide +kernel
theorem dX3_keyAt_15 : decode cX3_keyAt 15 = .ok (.getfield 21, 3) := by decide +kernel
theorem dX3_keyAt_18 : decode cX3_keyAt 18 = .ok (.iload_n 1, 1) := by decide +kernel
theorem dX3_keyAt_19 : decode cX3_keyAt 19 = .ok (.iaload, 1) := by decide +kernel
theorem dX3_keyAt_20 : decode cX3_keyAt 20 = .ok (.goto 9, 3) := by decide +kernel
theorem dX3_keyAt_23 : decode cX3_keyAt 23 = .ok (.aload_n 0, 1) := by decide +kernel
theorem dX3_keyAt_24 : decode cX3_keyAt 24 = .ok (.getfield 24, 3) := by decide +kernel
theorem dX3_keyAt_27 : decode cX3_keyAt 27 = .ok (.iload_n 1, 1) := by decide +kernel
theorem dX3_keyAt_28 : decode cX3_keyAt 28 = .ok (.iaload, 1) := by decide +kernel
theorem dX3_keyAt_29 : decode cX3_keyAt 29 = .ok (.ireturn, 1) := by decide +kernel
theorem dX3_setKeyAt_0 : decode cX3_setKeyAt 0 = .ok (.aload_n 0, 1) := by decide +kernel
theorem dX3_setKeyAt_1 : decode cX3_setKeyAt 1 = .ok (.iload_n 1, 1) := by decide +kernel
theorem dX3_setKeyAt_2 : decode cX3_setKeyAt 2 = .ok (.invokevirtual 31, 3) := by decide +kernel
theorem dX3_setKeyAt_5 : decode cX3_setKeyAt 5 = .ok (.ifCond .ne 4, 3) := by decide +kernel
theorem dX3_setKeyAt_8 : decode cX3_setKeyAt 8 = .ok (.return_, 1) := by decide +kernel
theorem dX3_setKeyAt_9 : decode cX3_setKeyAt 9 = .ok (.iload_n 2, 1) := by decide +kernel
theorem dX3_setKeyAt_10 : decode cX3_setKeyAt 10 = .ok (.ifCond .ne 13, 3) := by decide +kernel
theorem dX3_setKeyAt_13 : decode cX3_setKeyAt 13 = .ok (.aload_n 0, 1) := by decide +kernel
theorem dX3_setKeyAt_14 : decode cX3_setKeyAt 14 = .ok (.getfield 21, 3) := by decide +kernel
theorem dX3_setKeyAt_17 : decode cX3_setKeyAt 17 = .ok (.iload_n 1, 1) := by decide +kernel
theorem dX3_setKeyAt_18 : decode cX3_setKeyAt 18 = .ok (.iload_n 3, 1) := by decide +kernel
theorem dX3_setKeyAt_19 : decode cX3_setKeyAt 19 = .ok (.iastore, 1) := by decide +kernel
theorem dX3_setKeyAt_20 : decode cX3_setKeyAt 20 = .ok (.goto 10, 3) := by decide +kernel
theorem dX3_setKeyAt_23 : decode cX3_setKeyAt 23 = .ok (.aload_n 0, 1) := by decide +kernel
theorem dX3_setKeyAt_24 : decode cX3_setKeyAt 24 = .ok (.getfield 24, 3) := by decide +kernel
theorem dX3_setKeyAt_27 : decode cX3_setKeyAt 27 = .ok (.iload_n 1, 1) := by decide +kernel
theorem dX3_setKeyAt_28 : decode cX3_setKeyAt 28 = .ok (.iload_n 3, 1) := by decide +kernel
theorem dX3_setKeyAt_29 : decode cX3_setKeyAt 29 = .ok (.iastore, 1) := by decide +kernel
theorem dX3_setKeyAt_30 : decode cX3_setKeyAt 30 = .ok (.return_, 1) := by decide +kernel
theorem dX3_isTooMuch_0 : decode cX3_isTooMuch 0 = .ok (.aload_n 0, 1) := by decide +kernel
theorem dX3_isTooMuch_1 : decode cX3_isTooMuch 1 = .ok (.iload_n 1, 1) := by decide +kernel
theorem dX3_isTooMuch_2 : decode cX3_isTooMuch 2 = .ok (.invokevirtual 31, 3) := by decide +kernel
theorem dX3_isTooMuch_5 : decode cX3_isTooMuch 5 = .ok (.ifCond .eq 24, 3) := by decide +kernel
theorem dX3_isTooMuch_8 : decode cX3_isTooMuch 8 = .ok (.aload_n 0, 1) := by decide +kernel
theorem dX3_isTooMuch_9 : decode cX3_isTooMuch 9 = .ok (.getfield 15, 3) := by decide +kernel
theorem dX3_isTooMuch_12 : decode cX3_isTooMuch 12 = .ok (.iload_n 1, 1) := by decide +kernel
theorem dX3_isTooMuch_13 : decode cX3_isTooMuch 13 = .ok (.iaload, 1) := by decide +kernel
theorem dX3_isTooMuch_14 : decode cX3_isTooMuch 14 = .ok (.iload_n 2, 1) := by decide +kernel
theorem dX3_isTooMuch_15 : decode cX3_isTooMuch 15 = .ok (.iadd, 1) := by decide +kernel
theorem dX3_isTooMuch_16 : decode cX3_isTooMuch 16 = .ok (.aload_n 0, 1) := by decide +kernel
theorem dX3_isTooMuch_17 : decode cX3_isTooMuch 17 = .ok (.getfield 9, 3) := by decide +kernel
theorem dX3_isTooMuch_20 : decode cX3_isTooMuch 20 = .ok (.iload_n 1, 1) := by decide +kernel
theorem dX3_isTooMuch_21 : decode cX3_isTooMuch 21 = .ok (.iaload, 1) := by decide +kernel
theorem dX3_isTooMuch_22 : decode cX3_isTooMuch 22 = .ok (.if_icmp .le 7, 3) := by decide +kernel
theorem dX3_isTooMuch_25 : decode cX3_isTooMuch 25 = .ok (.iconst 1, 1) := by decide +kernel
theorem dX3_isTooMuch_26 : decode cX3_isTooMuch 26 = .ok (.goto 4, 3) := by decide +kernel
theorem dX3_isTooMuch_29 : decode cX3_isTooMuch 29 = .ok (.iconst 0, 1) := by decide +kernel
theorem dX3_isTooMuch_30 : decode cX3_isTooMuch 30 = .ok (.ireturn, 1) := by decide +kernel
end
section
theorem dX4_init_0 : decode cX4_init 0 = .ok (.aload_n 0, 1) := by decide +kernel
theorem dX4_init_1 : decode cX4_init 1 = .ok (.invokespecial 1, 3) := by decide +kernel
theorem dX4_init_4 : decode cX4_init 4 = .ok (.aload_n 0, 1) := by decide +kernel
theorem dX4_init_5 : decode cX4_init 5 = .ok (.new 7, 3) := by decide +kernel
theorem dX4_init_8 : decode cX4_init 8 = .ok (.dup, 1) := by decide +kernel
theorem dX4_init_9 : decode cX4_init 9 = .ok (.invokespecial 9, 3) := by decide +kernel
theorem dX4_init_12 : decode cX4_init 12 = .ok (.putfield 10, 3) := by decide +kernel
theorem dX4_init_15 : decode cX4_init 15 = .ok (.aload_n 0, 1) := by decide +kernel
theorem dX4_init_16 : decode cX4_init 16 = .ok (.new 16, 3) := by decide +kernel
theorem dX4_init_19 : decode cX4_init 19 = .ok (.dup, 1) := by decide +kernel
theorem dX4_init_20 : decode cX4_init 20 = .ok (.invokespecial 18, 3) := by decide +kernel
theorem dX4_init_23 : decode cX4_init 23 = .ok (.putfield 19, 3) := by decide +kernel
theorem dX4_init_26 : decode cX4_init 26 = .ok (.aload_n 0, 1) := by decide +kernel
theorem dX4_init_27 : decode cX4_init 27 = .ok (.new 23, 3) := by decide +kernel
theorem dX4_init_30 : decode cX4_init 30 = .ok (.dup, 1) := by decide +kernel
theorem dX4_init_31 : decode cX4_init 31 = .ok (.invokespecial 25, 3) := by decide +kernel
theorem dX4_init_34 : decode cX4_init 34 = .ok (.putfield 26, 3) := by decide +kernel
theorem dX4_init_37 : decode cX4_init 37 = .ok (.aload_n 0, 1) := by decide +kernel
theorem dX4_init_38 : decode cX4_init 38 = .ok (.new 30, 3) := by decide +kernel
theorem dX4_init_41 : decode cX4_init 41 = .ok (.dup, 1) := by decide +kernel
theorem dX4_init_42 : decode cX4_init 42 = .ok (.invokespecial 32, 3) := by decide +kernel
theorem dX4_init_45 : decode cX4_init 45 = .ok (.putfield 33, 3) := by decide +kernel
theorem dX4_init_48 : decode cX4_init 48 = .ok (.aload_n 0, 1) := by decide +kernel
theorem dX4_init_49 : decode cX4_init 49 = .ok (.bipush 60, 2) := by decide +kernel
theorem dX4_init_51 : decode cX4_init 51 = .ok (.newarray .int, 2) := by decide +kernel
theorem dX4_init_53 : decode cX4_init 53 = .ok (.putfield 37, 3) := by decide +kernel
theorem dX4_init_56 : decode cX4_init 56 = .ok (.aload_n 0, 1) := by decide +kernel
theorem dX4_init_57 : decode cX4_init 57 = .ok (.iconst 0, 1) := by decide +kernel
theorem dX4_init_58 : decode cX4_init 58 = .ok (.putfield 41, 3) := by decide +kernel
theorem dX4_init_61 : decode cX4_init 61 = .ok (.aload_n 0, 1) := by decide +kernel
theorem dX4_init_62 : decode cX4_init 62 = .ok (.iconst 0, 1) := by decide +kernel
theorem dX4_init_63 : decode cX4_init 63 = .ok (.putfield 45, 3) := by decide +kernel
theorem dX4_init_66 : decode cX4_init 66 = .ok (.return_, 1) := by decide +kernel
theorem dX4_key_0 : decode cX4_key 0 = .ok (.iload_n 1, 1) := by decide +kernel
theorem dX4_key_1 : decode cX4_key 1 = .ok (.iconst 1, 1) := by decide +kernel
theorem dX4_key_2 : decode cX4_key 2 = .ok (.bipush 9, 2) := by decide +kernel
theorem dX4_key_4 : decode cX4_key 4 = .ok (.invokestatic 48, 3) := by decide +kernel
theorem dX4_key_7 : decode cX4_key 7 = .ok (.ifCond .ne 6, 3) := by decide +kernel
theorem dX4_key_10 : decode cX4_key 10 = .ok (.bipush (-2), 2) := by decide +kernel
theorem dX4_key_12 : decode cX4_key 12 = .ok (.ireturn, 1) := by decide +kernel
theorem dX4_key_13 : decode cX4_key 13 = .ok (.aload_n 0, 1) := by decide +kernel
theorem dX4_key_14 : decode cX4_key 14 = .ok (.getfield 10, 3) := by decide +kernel
theorem dX4_key_17 : decode cX4_key 17 = .ok (.iload_n 1, 1) := by decide +kernel
theorem dX4_key_18 : decode cX4_key 18 = .ok (.iload_n 2, 1) := by decide +kernel
theorem dX4_key_19 : decode cX4_key 19 = .ok (.ifCond .eq 7, 3) := by decide +kernel
theorem dX4_key_22 : decode cX4_key 22 = .ok (.iconst 2, 1) := by decide +kernel
theorem dX4_key_23 : decode cX4_key 23 = .ok (.goto 4, 3) := by decide +kernel
theorem dX4_key_26 : decode cX4_key 26 = .ok (.iconst 1, 1) := by decide +kernel
theorem dX4_key_27 : decode cX4_key 27 = .ok (.invokevirtual 52, 3) := by decide +kernel
theorem dX4_key_30 : decode cX4_key 30 = .ok (.ireturn, 1) := by decide +kernel
theorem dX4_vault_0 : decode cX4_vault 0 = .ok (.iload_n 1, 1) := by decide +kernel
theorem dX4_vault_1 : decode cX4_vault 1 = .ok (.iconst 0, 1) := by decide +kernel
theorem dX4_vault_2 : decode cX4_vault 2 = .ok (.ldc 56, 2) := by decide +kernel
theorem dX4_vault_4 : decode cX4_vault 4 = .ok (.invokestatic 48, 3) := by decide +kernel
theorem dX4_vault_7 : decode cX4_vault 7 = .ok (.ifCond .ne 6, 3) := by decide +kernel
theorem dX4_vault_10 : decode cX4_vault 10 = .ok (.bipush (-2), 2) := by decide +kernel
theorem dX4_vault_12 : decode cX4_vault 12 = .ok (.ireturn, 1) := by decide +kernel
theorem dX4_vault_13 : decode cX4_vault 13 = .ok (.aload_n 0, 1) := by decide +kernel
theorem dX4_vault_14 : decode cX4_vault 14 = .ok (.getfield 19, 3) := by decide +kernel
theorem dX4_vault_17 : decode cX4_vault 17 = .ok (.iload_n 1, 1) := by decide +kernel
theorem dX4_vault_18 : decode cX4_vault 18 = .ok (.invokevirtual 57, 3) := by decide +kernel
theorem dX4_vault_21 : decode cX4_vault 21 = .ok (.ireturn, 1) := by decide +kernel
theorem dX4_hang_0 : decode cX4_hang 0 = .ok (.aload_n 0, 1) := by decide +kernel
theorem dX4_hang_1 : decode cX4_hang 1 = .ok (.getfield 19, 3) := by decide +kernel
theorem dX4_hang_4 : decode cX4_hang 4 = .ok (.iload_n 1, 1) := by decide +kernel
theorem dX4_hang_5 : decode cX4_hang 5 = .ok (.iload_n 2, 1) := by decide +kernel
theorem dX4_hang_6 : decode cX4_hang 6 = .ok (.invokevirtual 60, 3) := by decide +kernel
theorem dX4_hang_9 : decode cX4_hang 9 = .ok (.ifCond .eq 19, 3) := by decide +kernel
theorem dX4_hang_12 : decode cX4_hang 12 = .ok (.iload_n 3, 1) := by decide +kernel
theorem dX4_hang_13 : decode cX4_hang 13 = .ok (.iconst (-1), 1) := by decide +kernel
theorem dX4_hang_14 : decode cX4_hang 14 = .ok (.if_icmp .eq 17, 3) := by decide +kernel
theorem dX4_hang_17 : decode cX4_hang 17 = .ok (.aload_n 0, 1) := by decide +kernel
theorem dX4_hang_18 : decode cX4_hang 18 = .ok (.getfield 10, 3) := by decide +kernel
theorem dX4_hang_21 : decode cX4_hang 21 = .ok (.iload_n 3, 1) := by decide +kernel
theorem dX4_hang_22 : decode cX4_hang 22 = .ok (.invokevirtual 64, 3) := by decide +kernel
theorem dX4_hang_25 : decode cX4_hang 25 = .ok (.ifCond .ne 6, 3) := by decide +kernel
theorem dX4_hang_28 : decode cX4_hang 28 = .ok (.bipush (-2), 2) := by decide +kernel
theorem dX4_hang_30 : decode cX4_hang 30 = .ok (.ireturn, 1) := by decide +kernel
theorem dX4_hang_31 : decode cX4_hang 31 = .ok (.aload_n 0, 1) := by decide +kernel
theorem dX4_hang_32 : decode cX4_hang 32 = .ok (.getfield 19, 3) := by decide +kernel
theorem dX4_hang_35 : decode cX4_hang 35 = .ok (.iload_n 1, 1) := by decide +kernel
theorem dX4_hang_36 : decode cX4_hang 36 = .ok (.iload_n 2, 1) := by decide +kernel
theorem dX4_hang_37 : decode cX4_hang 37 = .ok (.invokevirtual 68, 3) := by decide +kernel
theorem dX4_hang_40 : decode cX4_hang 40 = .ok (.istore 4, 2) := by decide +kernel
theorem dX4_hang_42 : decode cX4_hang 42 = .ok (.aload_n 0, 1) := by decide +kernel
theorem dX4_hang_43 : decode cX4_hang 43 = .ok (.getfield 19, 3) := by decide +kernel
theorem dX4_hang_46 : decode cX4_hang 46 = .ok (.iload_n 1, 1) := by decide +kernel
theorem dX4_hang_47 : decode cX4_hang 47 = .ok (.iload_n 2, 1) := by decide +kernel
theorem dX4_hang_48 : decode cX4_hang 48 = .ok (.iload_n 3, 1) := by decide +kernel
theorem dX4_hang_49 : decode cX4_hang 49 = .ok (.invokevirtual 71, 3) := by decide +kernel
theorem dX4_hang_52 : decode cX4_hang 52 = .ok (.iload 4, 2) := by decide +kernel
theorem dX4_hang_54 : decode cX4_hang 54 = .ok (.ireturn, 1) := by decide +kernel
theorem dX4_link_0 : decode cX4_link 0 = .ok (.aload_n 0, 1) := by decide +kernel
theorem dX4_link_1 : decode cX4_link 1 = .ok (.getfield 19, 3) := by decide +kernel
theorem dX4_link_4 : decode cX4_link 4 = .ok (.iload_n 1, 1) := by decide +kernel
theorem dX4_link_5 : decode cX4_link 5 = .ok (.invokevirtual 75, 3) := by decide +kernel
theorem dX4_link_8 : decode cX4_link 8 = .ok (.ifCond .eq 19, 3) := by decide +kernel
theorem dX4_link_11 : decode cX4_link 11 = .ok (.iload_n 2, 1) := by decide +kernel
theorem dX4_link_12 : decode cX4_link 12 = .ok (.iconst (-1), 1) := by decide +kernel
theorem dX4_link_13 : decode cX4_link 13 = .ok (.if_icmp .eq 17, 3) := by decide +kernel
theorem dX4_link_16 : decode cX4_link 16 = .ok (.aload_n 0, 1) := by decide +kernel
theorem dX4_link_17 : decode cX4_link 17 = .ok (.getfield 19, 3) := by decide +kernel
theorem dX4_link_20 : decode cX4_link 20 = .ok (.iload_n 2, 1) := by decide +kernel
theorem dX4_link_21 : decode cX4_link 21 = .ok (.invokevirtual 75, 3) := by decide +kernel
theorem dX4_link_24 : decode cX4_link 24 = .ok (.ifCond .ne 6, 3) := by decide +kernel
theorem dX4_link_27 : decode cX4_link 27 = .ok (.bipush (-2), 2) := by decide +kernel
theorem dX4_link_29 : decode cX4_link 29 = .ok (.ireturn, 1) := by decide +kernel
theorem dX4_link_30 : decode cX4_link 30 = .ok (.aload_n 0, 1) := by decide +kernel
theorem dX4_link_31 : decode cX4_link 31 = .ok (.getfield 19, 3) := by decide +kernel
theorem dX4_link_34 : decode cX4_link 34 = .ok (.getfield 76, 3) := by decide +kernel
theorem dX4_link_37 : decode cX4_link 37 = .ok (.iload_n 1, 1) := by decide +kernel
theorem dX4_link_38 : decode cX4_link 38 = .ok (.iaload, 1) := by decide +kernel
theorem dX4_link_39 : decode cX4_link 39 = .ok (.istore_n 3, 1) := by decide +kernel
theorem dX4_link_40 : decode cX4_link 40 = .ok (.aload_n 0, 1) := by decide +kernel
theorem dX4_link_41 : decode cX4_link 41 = .ok (.getfield 19, 3) := by decide +kernel
theorem dX4_link_44 : decode cX4_link 44 = .ok (.getfield 76, 3) := by decide +kernel
theorem dX4_link_47 : decode cX4_link 47 = .ok (.iload_n 1, 1) := by decide +kernel
theorem dX4_link_48 : decode cX4_link 48 = .ok (.iload_n 2, 1) := by decide +kernel
theorem dX4_link_49 : decode cX4_link 49 = .ok (.iastore, 1) := by decide +kernel
theorem dX4_link_50 : decode cX4_link 50 = .ok (.iload_n 3, 1) := by decide +kernel
theorem dX4_link_51 : decode cX4_link 51 = .ok (.ireturn, 1) := by decide +kernel
theorem dX4_put_0 : decode cX4_put 0 = .ok (.aload_n 0, 1) := by decide +kernel
theorem dX4_put_1 : decode cX4_put 1 = .ok (.getfield 19, 3) := by decide +kernel
theorem dX4_put_4 : decode cX4_put 4 = .ok (.iload_n 1, 1) := by decide +kernel
theorem dX4_put_5 : decode cX4_put 5 = .ok (.invokevirtual 75, 3) := by decide +kernel
theorem dX4_put_8 : decode cX4_put 8 = .ok (.ifCond .eq 10, 3) := by decide +kernel
theorem dX4_put_11 : decode cX4_put 11 = .ok (.iload_n 2, 1) := by decide +kernel
theorem dX4_put_12 : decode cX4_put 12 = .ok (.invokestatic 79, 3) := by decide +kernel
theorem dX4_put_15 : decode cX4_put 15 = .ok (.ifCond .ne 6, 3) := by decide +kernel
theorem dX4_put_18 : decode cX4_put 18 = .ok (.bipush (-2), 2) := by decide +kernel
theorem dX4_put_20 : decode cX4_put 20 = .ok (.ireturn, 1) := by decide +kernel
theorem dX4_put_21 : decode cX4_put 21 = .ok (.aload_n 0, 1) := by decide +kernel
theorem dX4_put_22 : decode cX4_put 22 = .ok (.iload_n 1, 1) := by decide +kernel
theorem dX4_put_23 : decode cX4_put 23 = .ok (.invokevirtual 82, 3) := by decide +kernel
theorem dX4_put_26 : decode cX4_put 26 = .ok (.istore_n 3, 1) := by decide +kernel
theorem dX4_put_27 : decode cX4_put 27 = .ok (.iload_n 3, 1) := by decide +kernel
theorem dX4_put_28 : decode cX4_put 28 = .ok (.ifCond .eq 5, 3) := by decide +kernel
theorem dX4_put_31 : decode cX4_put 31 = .ok (.iload_n 3, 1) := by decide +kernel
theorem dX4_put_32 : decode cX4_put 32 = .ok (.ireturn, 1) := by decide +kernel
theorem dX4_put_33 : decode cX4_put 33 = .ok (.aload_n 0, 1) := by decide +kernel
theorem dX4_put_34 : decode cX4_put 34 = .ok (.getfield 19, 3) := by decide +kernel
theorem dX4_put_37 : decode cX4_put 37 = .ok (.iload_n 1, 1) := by decide +kernel
theorem dX4_put_38 : decode cX4_put 38 = .ok (.iload_n 2, 1) := by decide +kernel
theorem dX4_put_39 : decode cX4_put 39 = .ok (.invokevirtual 85, 3) := by decide +kernel
theorem dX4_put_42 : decode cX4_put 42 = .ok (.ifCond .eq 13, 3) := by decide +kernel
theorem dX4_put_45 : decode cX4_put 45 = .ok (.aload_n 0, 1) := by decide +kernel
theorem dX4_put_46 : decode cX4_put 46 = .ok (.sipush 300, 3) := by decide +kernel
theorem dX4_put_49 : decode cX4_put 49 = .ok (.bipush (-5), 2) := by decide +kernel
theorem dX4_put_51 : decode cX4_put 51 = .ok (.invokevirtual 88, 3) := by decide +kernel
theorem dX4_put_54 : decode cX4_put 54 = .ok (.ireturn, 1) := by decide +kernel
theorem dX4_put_55 : decode cX4_put 55 = .ok (.aload_n 0, 1) := by decide +kernel
theorem dX4_put_56 : decode cX4_put 56 = .ok (.getfield 19, 3) := by decide +kernel
theorem dX4_put_59 : decode cX4_put 59 = .ok (.getfield 91, 3) := by decide +kernel
theorem dX4_put_62 : decode cX4_put 62 = .ok (.iload_n 1, 1) := by decide +kernel
theorem dX4_put_63 : decode cX4_put 63 = .ok (.dup2, 1) := by decide +kernel
theorem dX4_put_64 : decode cX4_put 64 = .ok (.iaload, 1) := by decide +kernel
theorem dX4_put_65 : decode cX4_put 65 = .ok (.iload_n 2, 1) := by decide +kernel
theorem dX4_put_66 : decode cX4_put 66 = .ok (.iadd, 1) := by decide +kernel
theorem dX4_put_67 : decode cX4_put 67 = .ok (.iastore, 1) := by decide +kernel
theorem dX4_put_68 : decode cX4_put 68 = .ok (.aload_n 0, 1) := by decide +kernel
theorem dX4_put_69 : decode cX4_put 69 = .ok (.sipush 200, 3) := by decide +kernel
theorem dX4_put_72 : decode cX4_put 72 = .ok (.aload_n 0, 1) := by decide +kernel
theorem dX4_put_73 : decode cX4_put 73 = .ok (.getfield 19, 3) := by decide +kernel
theorem dX4_put_76 : decode cX4_put 76 = .ok (.getfield 91, 3) := by decide +kernel
theorem dX4_put_79 : decode cX4_put 79 = .ok (.iload_n 1, 1) := by decide +kernel
theorem dX4_put_80 : decode cX4_put 80 = .ok (.iaload, 1) := by decide +kernel
theorem dX4_put_81 : decode cX4_put 81 = .ok (.invokevirtual 88, 3) := by decide +kernel
theorem dX4_put_84 : decode cX4_put 84 = .ok (.ireturn, 1) := by decide +kernel
theorem dX4_take_0 : decode cX4_take 0 = .ok (.aload_n 0, 1) := by decide +kernel
theorem dX4_take_1 : decode cX4_take 1 = .ok (.getfield 19, 3) := by decide +kernel
theorem dX4_take_4 : decode cX4_take 4 = .ok (.iload_n 1, 1) := by decide +kernel
theorem dX4_take_5 : decode cX4_take 5 = .ok (.invokevirtual 75, 3) := by decide +kernel
theorem dX4_take_8 : decode cX4_take 8 = .ok (.ifCond .eq 10, 3) := by decide +kernel
theorem dX4_take_11 : decode cX4_take 11 = .ok (.iload_n 2, 1) := by decide +kernel
theorem dX4_take_12 : decode cX4_take 12 = .ok (.invokestatic 79, 3) := by decide +kernel
theorem dX4_take_15 : decode cX4_take 15 = .ok (.ifCond .ne 6, 3) := by decide +kernel
theorem dX4_take_18 : decode cX4_take 18 = .ok (.bipush (-2), 2) := by decide +kernel
theorem dX4_take_20 : decode cX4_take 20 = .ok (.ireturn, 1) := by decide +kernel
theorem dX4_take_21 : decode cX4_take 21 = .ok (.aload_n 0, 1) := by decide +kernel
theorem dX4_take_22 : decode cX4_take 22 = .ok (.iload_n 1, 1) := by decide +kernel
theorem dX4_take_23 : decode cX4_take 23 = .ok (.invokevirtual 82, 3) := by decide +kernel
theorem dX4_take_26 : decode cX4_take 26 = .ok (.istore_n 3, 1) := by decide +kernel
theorem dX4_take_27 : decode cX4_take 27 = .ok (.iload_n 3, 1) := by decide +kernel
theorem dX4_take_28 : decode cX4_take 28 = .ok (.ifCond .eq 5, 3) := by decide +kernel
theorem dX4_take_31 : decode cX4_take 31 = .ok (.iload_n 3, 1) := by decide +kernel
theorem dX4_take_32 : decode cX4_take 32 = .ok (.ireturn, 1) := by decide +kernel
theorem dX4_take_33 : decode cX4_take 33 = .ok (.aload_n 0, 1) := by decide +kernel
theorem dX4_take_34 : decode cX4_take 34 = .ok (.getfield 19, 3) := by decide +kernel
theorem dX4_take_37 : decode cX4_take 37 = .ok (.getfield 91, 3) := by decide +kernel
theorem dX4_take_40 : decode cX4_take 40 = .ok (.iload_n 1, 1) := by decide +kernel
theorem dX4_take_41 : decode cX4_take 41 = .ok (.iaload, 1) := by decide +kernel
theorem dX4_take_42 : decode cX4_take 42 = .ok (.iload_n 2, 1) := by decide +kernel
theorem dX4_take_43 : decode cX4_take 43 = .ok (.if_icmp .ge 10, 3) := by decide +kernel
theorem dX4_take_46 : decode cX4_take 46 = .ok (.aload_n 0, 1) := by decide +kernel
theorem dX4_take_47 : decode cX4_take 47 = .ok (.bipush (-6), 2) := by decide +kernel
theorem dX4_take_49 : decode cX4_take 49 = .ok (.invokevirtual 94, 3) := by decide +kernel
theorem dX4_take_52 : decode cX4_take 52 = .ok (.ireturn, 1) := by decide +kernel
theorem dX4_take_53 : decode cX4_take 53 = .ok (.aload_n 0, 1) := by decide +kernel
theorem dX4_take_54 : decode cX4_take 54 = .ok (.getfield 19, 3) := by decide +kernel
theorem dX4_take_57 : decode cX4_take 57 = .ok (.getfield 91, 3) := by decide +kernel
theorem dX4_take_60 : decode cX4_take 60 = .ok (.iload_n 1, 1) := by decide +kernel
theorem dX4_take_61 : decode cX4_take 61 = .ok (.dup2, 1) := by decide +kernel
theorem dX4_take_62 : decode cX4_take 62 = .ok (.iaload, 1) := by decide +kernel
theorem dX4_take_63 : decode cX4_take 63 = .ok (.iload_n 2, 1) := by decide +kernel
theorem dX4_take_64 : decode cX4_take 64 = .ok (.isub, 1) := by decide +kernel
theorem dX4_take_65 : decode cX4_take 65 = .ok (.iastore, 1) := by decide +kernel
theorem dX4_take_66 : decode cX4_take 66 = .ok (.aload_n 0, 1) := by decide +kernel
theorem dX4_take_67 : decode cX4_take 67 = .ok (.sipush 200, 3) := by decide +kernel
theorem dX4_take_70 : decode cX4_take 70 = .ok (.aload_n 0, 1) := by decide +kernel
theorem dX4_take_71 : decode cX4_take 71 = .ok (.getfield 19, 3) := by decide +kernel
theorem dX4_take_74 : decode cX4_take 74 = .ok (.getfield 91, 3) := by decide +kernel
theorem dX4_take_77 : decode cX4_take 77 = .ok (.iload_n 1, 1) := by decide +kernel
theorem dX4_take_78 : decode cX4_take 78 = .ok (.iaload, 1) := by decide +kernel
theorem dX4_take_79 : decode cX4_take 79 = .ok (.invokevirtual 88, 3) := by decide +kernel
theorem dX4_take_82 : decode cX4_take 82 = .ok (.ireturn, 1) := by decide +kernel
theorem dX4_move_0 : decode cX4_move 0 = .ok (.aload_n 0, 1) := by decide +kernel
theorem dX4_move_1 : decode cX4_move 1 = .ok (.getfield 19, 3) := by decide +kernel
theorem dX4_move_4 : decode cX4_move 4 = .ok (.iload_n 1, 1) := by decide +kernel
theorem dX4_move_5 : decode cX4_move 5 = .ok (.invokevirtual 75, 3) := by decide +kernel
theorem dX4_move_8 : decode cX4_move 8 = .ok (.ifCond .eq 21, 3) := by decide +kernel
theorem dX4_move_11 : decode cX4_move 11 = .ok (.aload_n 0, 1) := by decide +kernel
theorem dX4_move_12 : decode cX4_move 12 = .ok (.getfield 19, 3) := by decide +kernel
theorem dX4_move_15 : decode cX4_move 15 = .ok (.iload_n 2, 1) := by decide +kernel
theorem dX4_move_16 : decode cX4_move 16 = .ok (.invokevirtual 75, 3) := by decide +kernel
theorem dX4_move_19 : decode cX4_move 19 = .ok (.ifCond .eq 10, 3) := by decide +kernel
theorem dX4_move_22 : decode cX4_move 22 = .ok (.iload_n 3, 1) := by decide +kernel
theorem dX4_move_23 : decode cX4_move 23 = .ok (.invokestatic 79, 3) := by decide +kernel
theorem dX4_move_26 : decode cX4_move 26 = .ok (.ifCond .ne 6, 3) := by decide +kernel
theorem dX4_move_29 : decode cX4_move 29 = .ok (.bipush (-2), 2) := by decide +kernel
theorem dX4_move_31 : decode cX4_move 31 = .ok (.ireturn, 1) := by decide +kernel
theorem dX4_move_32 : decode cX4_move 32 = .ok (.aload_n 0, 1) := by decide +kernel
theorem dX4_move_33 : decode cX4_move 33 = .ok (.iload_n 1, 1) := by decide +kernel
theorem dX4_move_34 : decode cX4_move 34 = .ok (.invokevirtual 82, 3) := by decide +kernel
theorem dX4_move_37 : decode cX4_move 37 = .ok (.istore 4, 2) := by decide +kernel
theorem dX4_move_39 : decode cX4_move 39 = .ok (.iload 4, 2) := by decide +kernel
theorem dX4_move_41 : decode cX4_move 41 = .ok (.ifCond .ne 10, 3) := by decide +kernel
theorem dX4_move_44 : decode cX4_move 44 = .ok (.aload_n 0, 1) := by decide +kernel
theorem dX4_move_45 : decode cX4_move 45 = .ok (.iload_n 2, 1) := by decide +kernel
theorem dX4_move_46 : decode cX4_move 46 = .ok (.invokevirtual 82, 3) := by decide +kernel
theorem dX4_move_49 : decode cX4_move 49 = .ok (.istore 4, 2) := by decide +kernel
theorem dX4_move_51 : decode cX4_move 51 = .ok (.iload 4, 2) := by decide +kernel
theorem dX4_move_53 : decode cX4_move 53 = .ok (.ifCond .eq 6, 3) := by decide +kernel
theorem dX4_move_56 : decode cX4_move 56 = .ok (.iload 4, 2) := by decide +kernel
theorem dX4_move_58 : decode cX4_move 58 = .ok (.ireturn, 1) := by decide +kernel
theorem dX4_move_59 : decode cX4_move 59 = .ok (.aload_n 0, 1) := by decide +kernel
theorem dX4_move_60 : decode cX4_move 60 = .ok (.getfield 19, 3) := by decide +kernel
theorem dX4_move_63 : decode cX4_move 63 = .ok (.getfield 91, 3) := by decide +kernel
theorem dX4_move_66 : decode cX4_move 66 = .ok (.iload_n 1, 1) := by decide +kernel
theorem dX4_move_67 : decode cX4_move 67 = .ok (.iaload, 1) := by decide +kernel
theorem dX4_move_68 : decode cX4_move 68 = .ok (.iload_n 3, 1) := by decide +kernel
theorem dX4_move_69 : decode cX4_move 69 = .ok (.if_icmp .ge 10, 3) := by decide +kernel
theorem dX4_move_72 : decode cX4_move 72 = .ok (.aload_n 0, 1) := by decide +kernel
theorem dX4_move_73 : decode cX4_move 73 = .ok (.bipush (-6), 2) := by decide +kernel
theorem dX4_move_75 : decode cX4_move 75 = .ok (.invokevirtual 94, 3) := by decide +kernel
theorem dX4_move_78 : decode cX4_move 78 = .ok (.ireturn, 1) := by decide +kernel
theorem dX4_move_79 : decode cX4_move 79 = .ok (.aload_n 0, 1) := by decide +kernel
theorem dX4_move_80 : decode cX4_move 80 = .ok (.getfield 19, 3) := by decide +kernel
theorem dX4_move_83 : decode cX4_move 83 = .ok (.iload_n 2, 1) := by decide +kernel
theorem dX4_move_84 : decode cX4_move 84 = .ok (.iload_n 3, 1) := by decide +kernel
theorem dX4_move_85 : decode cX4_move 85 = .ok (.invokevirtual 85, 3) := by decide +kernel
theorem dX4_move_88 : decode cX4_move 88 = .ok (.ifCond .eq 13, 3) := by decide +kernel
theorem dX4_move_91 : decode cX4_move 91 = .ok (.aload_n 0, 1) := by decide +kernel
theorem dX4_move_92 : decode cX4_move 92 = .ok (.sipush 300, 3) := by decide +kernel
theorem dX4_move_95 : decode cX4_move 95 = .ok (.bipush (-5), 2) := by decide +kernel
theorem dX4_move_97 : decode cX4_move 97 = .ok (.invokevirtual 88, 3) := by decide +kernel
theorem dX4_move_100 : decode cX4_move 100 = .ok (.ireturn, 1) := by decide +kernel
theorem dX4_move_101 : decode cX4_move 101 = .ok (.aload_n 0, 1) := by decide +kernel
theorem dX4_move_102 : decode cX4_move 102 = .ok (.getfield 19, 3) := by decide +kernel
theorem dX4_move_105 : decode cX4_move 105 = .ok (.getfield 91, 3) := by decide +kernel
theorem dX4_move_108 : decode cX4_move 108 = .ok (.iload_n 1, 1) := by decide +kernel
theorem dX4_move_109 : decode cX4_move 109 = .ok (.dup2, 1) := by decide +kernel
theorem dX4_move_110 : decode cX4_move 110 = .ok (.iaload, 1) := by decide +kernel
theorem dX4_move_111 : decode cX4_move 111 = .ok (.iload_n 3, 1) := by decide +kernel
theorem dX4_move_112 : decode cX4_move 112 = .ok (.isub, 1) := by decide +kernel
theorem dX4_move_113 : decode cX4_move 113 = .ok (.iastore, 1) := by decide +kernel
theorem dX4_move_114 : decode cX4_move 114 = .ok (.aload_n 0, 1) := by decide +kernel
theorem dX4_move_115 : decode cX4_move 115 = .ok (.getfield 19, 3) := by decide +kernel
theorem dX4_move_118 : decode cX4_move 118 = .ok (.getfield 91, 3) := by decide +kernel
theorem dX4_move_121 : decode cX4_move 121 = .ok (.iload_n 2, 1) := by decide +kernel
theorem dX4_move_122 : decode cX4_move 122 = .ok (.dup2, 1) := by decide +kernel
theorem dX4_move_123 : decode cX4_move 123 = .ok (.iaload, 1) := by decide +kernel
theorem dX4_move_124 : decode cX4_move 124 = .ok (.iload_n 3, 1) := by decide +kernel
theorem dX4_move_125 : decode cX4_move 125 = .ok (.iadd, 1) := by decide +kernel
theorem dX4_move_126 : decode cX4_move 126 = .ok (.iastore, 1) := by decide +kernel
theorem dX4_move_127 : decode cX4_move 127 = .ok (.aload_n 0, 1) := by decide +kernel
theorem dX4_move_128 : decode cX4_move 128 = .ok (.sipush 200, 3) := by decide +kernel
theorem dX4_move_131 : decode cX4_move 131 = .ok (.aload_n 0, 1) := by decide +kernel
theorem dX4_move_132 : decode cX4_move 132 = .ok (.getfield 19, 3) := by decide +kernel
theorem dX4_move_135 : decode cX4_move 135 = .ok (.getfield 91, 3) := by decide +kernel
theorem dX4_move_138 : decode cX4_move 138 = .ok (.iload_n 1, 1) := by decide +kernel
theorem dX4_move_139 : decode cX4_move 139 = .ok (.iaload, 1) := by decide +kernel
theorem dX4_move_140 : decode cX4_move 140 = .ok (.invokevirtual 88, 3) := by decide +kernel
theorem dX4_move_143 : decode cX4_move 143 = .ok (.ireturn, 1) := by decide +kernel
theorem dX4_split_0 : decode cX4_split 0 = .ok (.aload_n 0, 1) := by decide +kernel
theorem dX4_split_1 : decode cX4_split 1 = .ok (.getfield 19, 3) := by decide +kernel
theorem dX4_split_4 : decode cX4_split 4 = .ok (.iload_n 1, 1) := by decide +kernel
theorem dX4_split_5 : decode cX4_split 5 = .ok (.invokevirtual 75, 3) := by decide +kernel
theorem dX4_split_8 : decode cX4_split 8 = .ok (.ifCond .eq 14, 3) := by decide +kernel
theorem dX4_split_11 : decode cX4_split 11 = .ok (.iload_n 2, 1) := by decide +kernel
theorem dX4_split_12 : decode cX4_split 12 = .ok (.iconst 0, 1) := by decide +kernel
theorem dX4_split_13 : decode cX4_split 13 = .ok (.sipush 1000, 3) := by decide +kernel
theorem dX4_split_16 : decode cX4_split 16 = .ok (.invokestatic 48, 3) := by decide +kernel
theorem dX4_split_19 : decode cX4_split 19 = .ok (.ifCond .ne 6, 3) := by decide +kernel
theorem dX4_split_22 : decode cX4_split 22 = .ok (.bipush (-2), 2) := by decide +kernel
theorem dX4_split_24 : decode cX4_split 24 = .ok (.ireturn, 1) := by decide +kernel
theorem dX4_split_25 : decode cX4_split 25 = .ok (.aload_n 0, 1) := by decide +kernel
theorem dX4_split_26 : decode cX4_split 26 = .ok (.iload_n 1, 1) := by decide +kernel
theorem dX4_split_27 : decode cX4_split 27 = .ok (.invokevirtual 82, 3) := by decide +kernel
theorem dX4_split_30 : decode cX4_split 30 = .ok (.istore_n 3, 1) := by decide +kernel
theorem dX4_split_31 : decode cX4_split 31 = .ok (.iload_n 3, 1) := by decide +kernel
theorem dX4_split_32 : decode cX4_split 32 = .ok (.ifCond .eq 5, 3) := by decide +kernel
theorem dX4_split_35 : decode cX4_split 35 = .ok (.iload_n 3, 1) := by decide +kernel
theorem dX4_split_36 : decode cX4_split 36 = .ok (.ireturn, 1) := by decide +kernel
theorem dX4_split_37 : decode cX4_split 37 = .ok (.iload_n 2, 1) := by decide +kernel
theorem dX4_split_38 : decode cX4_split 38 = .ok (.ifCond .ne 10, 3) := by decide +kernel
theorem dX4_split_41 : decode cX4_split 41 = .ok (.aload_n 0, 1) := by decide +kernel
theorem dX4_split_42 : decode cX4_split 42 = .ok (.bipush (-8), 2) := by decide +kernel
theorem dX4_split_44 : decode cX4_split 44 = .ok (.invokevirtual 94, 3) := by decide +kernel
theorem dX4_split_47 : decode cX4_split 47 = .ok (.ireturn, 1) := by decide +kernel
theorem dX4_split_48 : decode cX4_split 48 = .ok (.aload_n 0, 1) := by decide +kernel
theorem dX4_split_49 : decode cX4_split 49 = .ok (.sipush 200, 3) := by decide +kernel
theorem dX4_split_52 : decode cX4_split 52 = .ok (.aload_n 0, 1) := by decide +kernel
theorem dX4_split_53 : decode cX4_split 53 = .ok (.getfield 19, 3) := by decide +kernel
theorem dX4_split_56 : decode cX4_split 56 = .ok (.getfield 91, 3) := by decide +kernel
theorem dX4_split_59 : decode cX4_split 59 = .ok (.iload_n 1, 1) := by decide +kernel
theorem dX4_split_60 : decode cX4_split 60 = .ok (.iaload, 1) := by decide +kernel
theorem dX4_split_61 : decode cX4_split 61 = .ok (.iload_n 2, 1) := by decide +kernel
theorem dX4_split_62 : decode cX4_split 62 = .ok (.idiv, 1) := by decide +kernel
theorem dX4_split_63 : decode cX4_split 63 = .ok (.invokevirtual 88, 3) := by decide +kernel
theorem dX4_split_66 : decode cX4_split 66 = .ok (.ireturn, 1) := by decide +kernel
theorem dX4_swap_0 : decode cX4_swap 0 = .ok (.aload_n 0, 1) := by decide +kernel
theorem dX4_swap_1 : decode cX4_swap 1 = .ok (.getfield 19, 3) := by decide +kernel
theorem dX4_swap_4 : decode cX4_swap 4 = .ok (.iload_n 1, 1) := by decide +kernel
theorem dX4_swap_5 : decode cX4_swap 5 = .ok (.invokevirtual 75, 3) := by decide +kernel
theorem dX4_swap_8 : decode cX4_swap 8 = .ok (.ifCond .ne 6, 3) := by decide +kernel
theorem dX4_swap_11 : decode cX4_swap 11 = .ok (.bipush (-2), 2) := by decide +kernel
theorem dX4_swap_13 : decode cX4_swap 13 = .ok (.ireturn, 1) := by decide +kernel
theorem dX4_swap_14 : decode cX4_swap 14 = .ok (.aload_n 0, 1) := by decide +kernel
theorem dX4_swap_15 : decode cX4_swap 15 = .ok (.iload_n 1, 1) := by decide +kernel
theorem dX4_swap_16 : decode cX4_swap 16 = .ok (.invokevirtual 82, 3) := by decide +kernel
theorem dX4_swap_19 : decode cX4_swap 19 = .ok (.istore_n 2, 1) := by decide +kernel
theorem dX4_swap_20 : decode cX4_swap 20 = .ok (.iload_n 2, 1) := by decide +kernel
theorem dX4_swap_21 : decode cX4_swap 21 = .ok (.ifCond .eq 5, 3) := by decide +kernel
theorem dX4_swap_24 : decode cX4_swap 24 = .ok (.iload_n 2, 1) := by decide +kernel
theorem dX4_swap_25 : decode cX4_swap 25 = .ok (.ireturn, 1) := by decide +kernel
theorem dX4_swap_26 : decode cX4_swap 26 = .ok (.aload_n 0, 1) := by decide +kernel
theorem dX4_swap_27 : decode cX4_swap 27 = .ok (.getfield 19, 3) := by decide +kernel
theorem dX4_swap_30 : decode cX4_swap 30 = .ok (.iload_n 1, 1) := by decide +kernel
theorem dX4_swap_31 : decode cX4_swap 31 = .ok (.iconst 0, 1) := by decide +kernel
theorem dX4_swap_32 : decode cX4_swap 32 = .ok (.invokevirtual 68, 3) := by decide +kernel
theorem dX4_swap_35 : decode cX4_swap 35 = .ok (.istore_n 3, 1) := by decide +kernel
theorem dX4_swap_36 : decode cX4_swap 36 = .ok (.aload_n 0, 1) := by decide +kernel
theorem dX4_swap_37 : decode cX4_swap 37 = .ok (.getfield 19, 3) := by decide +kernel
theorem dX4_swap_40 : decode cX4_swap 40 = .ok (.iload_n 1, 1) := by decide +kernel
theorem dX4_swap_41 : decode cX4_swap 41 = .ok (.iconst 1, 1) := by decide +kernel
theorem dX4_swap_42 : decode cX4_swap 42 = .ok (.invokevirtual 68, 3) := by decide +kernel
theorem dX4_swap_45 : decode cX4_swap 45 = .ok (.istore 4, 2) := by decide +kernel
theorem dX4_swap_47 : decode cX4_swap 47 = .ok (.aload_n 0, 1) := by decide +kernel
theorem dX4_swap_48 : decode cX4_swap 48 = .ok (.getfield 19, 3) := by decide +kernel
theorem dX4_swap_51 : decode cX4_swap 51 = .ok (.iload_n 1, 1) := by decide +kernel
theorem dX4_swap_52 : decode cX4_swap 52 = .ok (.iconst 0, 1) := by decide +kernel
theorem dX4_swap_53 : decode cX4_swap 53 = .ok (.iload 4, 2) := by decide +kernel
theorem dX4_swap_55 : decode cX4_swap 55 = .ok (.invokevirtual 71, 3) := by decide +kernel
theorem dX4_swap_58 : decode cX4_swap 58 = .ok (.aload_n 0, 1) := by decide +kernel
theorem dX4_swap_59 : decode cX4_swap 59 = .ok (.getfield 19, 3) := by decide +kernel
theorem dX4_swap_62 : decode cX4_swap 62 = .ok (.iload_n 1, 1) := by decide +kernel
theorem dX4_swap_63 : decode cX4_swap 63 = .ok (.iconst 1, 1) := by decide +kernel
theorem dX4_swap_64 : decode cX4_swap 64 = .ok (.iload_n 3, 1) := by decide +kernel
theorem dX4_swap_65 : decode cX4_swap 65 = .ok (.invokevirtual 71, 3) := by decide +kernel
theorem dX4_swap_68 : decode cX4_swap 68 = .ok (.aload_n 0, 1) := by decide +kernel
theorem dX4_swap_69 : decode cX4_swap 69 = .ok (.sipush 200, 3) := by decide +kernel
theorem dX4_swap_72 : decode cX4_swap 72 = .ok (.iload 4, 2) := by decide +kernel
theorem dX4_swap_74 : decode cX4_swap 74 = .ok (.invokevirtual 88, 3) := by decide +kernel
theorem dX4_swap_77 : decode cX4_swap 77 = .ok (.ireturn, 1) := by decide +kernel
theorem dX4_polish_0 : decode cX4_polish 0 = .ok (.aload_n 0, 1) := by decide +kernel
theorem dX4_polish_1 : decode cX4_polish 1 = .ok (.getfield 10, 3) := by decide +kernel
theorem dX4_polish_4 : decode cX4_polish 4 = .ok (.iload_n 1, 1) := by decide +kernel
theorem dX4_polish_5 : decode cX4_polish 5 = .ok (.invokevirtual 64, 3) := by decide +kernel
theorem dX4_polish_8 : decode cX4_polish 8 = .ok (.ifCond .ne 6, 3) := by decide +kernel
theorem dX4_polish_11 : decode cX4_polish 11 = .ok (.bipush (-2), 2) := by decide +kernel
theorem dX4_polish_13 : decode cX4_polish 13 = .ok (.ireturn, 1) := by decide +kernel
theorem dX4_polish_14 : decode cX4_polish 14 = .ok (.aload_n 0, 1) := by decide +kernel
theorem dX4_polish_15 : decode cX4_polish 15 = .ok (.iload_n 1, 1) := by decide +kernel
theorem dX4_polish_16 : decode cX4_polish 16 = .ok (.invokevirtual 97, 3) := by decide +kernel
theorem dX4_polish_19 : decode cX4_polish 19 = .ok (.pop, 1) := by decide +kernel
theorem dX4_polish_20 : decode cX4_polish 20 = .ok (.aload_n 0, 1) := by decide +kernel
theorem dX4_polish_21 : decode cX4_polish 21 = .ok (.getfield 10, 3) := by decide +kernel
theorem dX4_polish_24 : decode cX4_polish 24 = .ok (.getfield 100, 3) := by decide +kernel
theorem dX4_polish_27 : decode cX4_polish 27 = .ok (.iload_n 1, 1) := by decide +kernel
theorem dX4_polish_28 : decode cX4_polish 28 = .ok (.iaload, 1) := by decide +kernel
theorem dX4_polish_29 : decode cX4_polish 29 = .ok (.istore_n 2, 1) := by decide +kernel
theorem dX4_polish_30 : decode cX4_polish 30 = .ok (.aload_n 0, 1) := by decide +kernel
theorem dX4_polish_31 : decode cX4_polish 31 = .ok (.getfield 10, 3) := by decide +kernel
theorem dX4_polish_34 : decode cX4_polish 34 = .ok (.getfield 100, 3) := by decide +kernel
theorem dX4_polish_37 : decode cX4_polish 37 = .ok (.iload_n 1, 1) := by decide +kernel
theorem dX4_polish_38 : decode cX4_polish 38 = .ok (.iconst 0, 1) := by decide +kernel
theorem dX4_polish_39 : decode cX4_polish 39 = .ok (.iastore, 1) := by decide +kernel
theorem dX4_polish_40 : decode cX4_polish 40 = .ok (.aload_n 0, 1) := by decide +kernel
theorem dX4_polish_41 : decode cX4_polish 41 = .ok (.sipush 200, 3) := by decide +kernel
theorem dX4_polish_44 : decode cX4_polish 44 = .ok (.iload_n 2, 1) := by decide +kernel
theorem dX4_polish_45 : decode cX4_polish 45 = .ok (.invokevirtual 88, 3) := by decide +kernel
theorem dX4_polish_48 : decode cX4_polish 48 = .ok (.ireturn, 1) := by decide +kernel
theorem dX4_rounds_0 : decode cX4_rounds 0 = .ok (.aload_n 0, 1) := by decide +kernel
theorem dX4_rounds_1 : decode cX4_rounds 1 = .ok (.iload_n 1, 1) := by decide +kernel
theorem dX4_rounds_2 : decode cX4_rounds 2 = .ok (.iload_n 2, 1) := by decide +kernel
theorem dX4_rounds_3 : decode cX4_rounds 3 = .ok (.invokevirtual 103, 3) := by decide +kernel
theorem dX4_rounds_6 : decode cX4_rounds 6 = .ok (.ifCond .eq 13, 3) := by decide +kernel
theorem dX4_rounds_9 : decode cX4_rounds 9 = .ok (.iload_n 3, 1) := by decide +kernel
theorem dX4_rounds_10 : decode cX4_rounds 10 = .ok (.iconst 1, 1) := by decide +kernel
theorem dX4_rounds_11 : decode cX4_rounds 11 = .ok (.bipush 12, 2) := by decide +kernel
theorem dX4_rounds_13 : decode cX4_rounds 13 = .ok (.invokestatic 48, 3) := by decide +kernel
theorem dX4_rounds_16 : decode cX4_rounds 16 = .ok (.ifCond .ne 6, 3) := by decide +kernel
theorem dX4_rounds_19 : decode cX4_rounds 19 = .ok (.bipush (-2), 2) := by decide +kernel
theorem dX4_rounds_21 : decode cX4_rounds 21 = .ok (.ireturn, 1) := by decide +kernel
theorem dX4_rounds_22 : decode cX4_rounds 22 = .ok (.iconst 0, 1) := by decide +kernel
theorem dX4_rounds_23 : decode cX4_rounds 23 = .ok (.istore 4, 2) := by decide +kernel
theorem dX4_rounds_25 : decode cX4_rounds 25 = .ok (.iload_n 1, 1) := by decide +kernel
theorem dX4_rounds_26 : decode cX4_rounds 26 = .ok (.istore 5, 2) := by decide +kernel
theorem dX4_rounds_28 : decode cX4_rounds 28 = .ok (.iload 5, 2) := by decide +kernel
theorem dX4_rounds_30 : decode cX4_rounds 30 = .ok (.iload_n 1, 1) := by decide +kernel
theorem dX4_rounds_31 : decode cX4_rounds 31 = .ok (.iload_n 2, 1) := by decide +kernel
theorem dX4_rounds_32 : decode cX4_rounds 32 = .ok (.iadd, 1) := by decide +kernel
theorem dX4_rounds_33 : decode cX4_rounds 33 = .ok (.if_icmp .ge 91, 3) := by decide +kernel
theorem dX4_rounds_36 : decode cX4_rounds 36 = .ok (.iload 4, 2) := by decide +kernel
theorem dX4_rounds_38 : decode cX4_rounds 38 = .ok (.iload_n 3, 1) := by decide +kernel
theorem dX4_rounds_39 : decode cX4_rounds 39 = .ok (.if_icmp .ge 85, 3) := by decide +kernel
theorem dX4_rounds_42 : decode cX4_rounds 42 = .ok (.aload_n 0, 1) := by decide +kernel
theorem dX4_rounds_43 : decode cX4_rounds 43 = .ok (.iload 5, 2) := by decide +kernel
theorem dX4_rounds_45 : decode cX4_rounds 45 = .ok (.iconst 0, 1) := by decide +kernel
theorem dX4_rounds_46 : decode cX4_rounds 46 = .ok (.invokevirtual 106, 3) := by decide +kernel
theorem dX4_rounds_49 : decode cX4_rounds 49 = .ok (.ifCond .eq 6, 3) := by decide +kernel
theorem dX4_rounds_52 : decode cX4_rounds 52 = .ok (.goto 66, 3) := by decide +kernel
theorem dX4_rounds_55 : decode cX4_rounds 55 = .ok (.aload_n 0, 1) := by decide +kernel
theorem dX4_rounds_56 : decode cX4_rounds 56 = .ok (.getfield 19, 3) := by decide +kernel
theorem dX4_rounds_59 : decode cX4_rounds 59 = .ok (.getfield 91, 3) := by decide +kernel
theorem dX4_rounds_62 : decode cX4_rounds 62 = .ok (.iload 5, 2) := by decide +kernel
theorem dX4_rounds_64 : decode cX4_rounds 64 = .ok (.iaload, 1) := by decide +kernel
theorem dX4_rounds_65 : decode cX4_rounds 65 = .ok (.ifCond .ne 15, 3) := by decide +kernel
theorem dX4_rounds_68 : decode cX4_rounds 68 = .ok (.aload_n 0, 1) := by decide +kernel
theorem dX4_rounds_69 : decode cX4_rounds 69 = .ok (.sipush 500, 3) := by decide +kernel
theorem dX4_rounds_72 : decode cX4_rounds 72 = .ok (.iconst (-1), 1) := by decide +kernel
theorem dX4_rounds_73 : decode cX4_rounds 73 = .ok (.invokevirtual 88, 3) := by decide +kernel
theorem dX4_rounds_76 : decode cX4_rounds 76 = .ok (.pop, 1) := by decide +kernel
theorem dX4_rounds_77 : decode cX4_rounds 77 = .ok (.goto 41, 3) := by decide +kernel
theorem dX4_rounds_80 : decode cX4_rounds 80 = .ok (.aload_n 0, 1) := by decide +kernel
theorem dX4_rounds_81 : decode cX4_rounds 81 = .ok (.getfield 19, 3) := by decide +kernel
theorem dX4_rounds_84 : decode cX4_rounds 84 = .ok (.getfield 91, 3) := by decide +kernel
theorem dX4_rounds_87 : decode cX4_rounds 87 = .ok (.iload 5, 2) := by decide +kernel
theorem dX4_rounds_89 : decode cX4_rounds 89 = .ok (.dup2, 1) := by decide +kernel
theorem dX4_rounds_90 : decode cX4_rounds 90 = .ok (.iaload, 1) := by decide +kernel
theorem dX4_rounds_91 : decode cX4_rounds 91 = .ok (.iconst 1, 1) := by decide +kernel
theorem dX4_rounds_92 : decode cX4_rounds 92 = .ok (.isub, 1) := by decide +kernel
theorem dX4_rounds_93 : decode cX4_rounds 93 = .ok (.iastore, 1) := by decide +kernel
theorem dX4_rounds_94 : decode cX4_rounds 94 = .ok (.iinc 4 1, 3) := by decide +kernel
theorem dX4_rounds_97 : decode cX4_rounds 97 = .ok (.aload_n 0, 1) := by decide +kernel
theorem dX4_rounds_98 : decode cX4_rounds 98 = .ok (.iload 4, 2) := by decide +kernel
theorem dX4_rounds_100 : decode cX4_rounds 100 = .ok (.iload_n 3, 1) := by decide +kernel
theorem dX4_rounds_101 : decode cX4_rounds 101 = .ok (.if_icmp .ne 9, 3) := by decide +kernel
theorem dX4_rounds_104 : decode cX4_rounds 104 = .ok (.sipush 400, 3) := by decide +kernel
theorem dX4_rounds_107 : decode cX4_rounds 107 = .ok (.goto 6, 3) := by decide +kernel
theorem dX4_rounds_110 : decode cX4_rounds 110 = .ok (.sipush 200, 3) := by decide +kernel
theorem dX4_rounds_113 : decode cX4_rounds 113 = .ok (.iconst (-1), 1) := by decide +kernel
theorem dX4_rounds_114 : decode cX4_rounds 114 = .ok (.invokevirtual 88, 3) := by decide +kernel
theorem dX4_rounds_117 : decode cX4_rounds 117 = .ok (.pop, 1) := by decide +kernel
theorem dX4_rounds_118 : decode cX4_rounds 118 = .ok (.iinc 5 1, 3) := by decide +kernel
theorem dX4_rounds_121 : decode cX4_rounds 121 = .ok (.goto (-93), 3) := by decide +kernel
theorem dX4_rounds_124 : decode cX4_rounds 124 = .ok (.iload 4, 2) := by decide +kernel
theorem dX4_rounds_126 : decode cX4_rounds 126 = .ok (.ireturn, 1) := by decide +kernel
theorem dX4_sweep_0 : decode cX4_sweep 0 = .ok (.aload_n 0, 1) := by decide +kernel
theorem dX4_sweep_1 : decode cX4_sweep 1 = .ok (.iload_n 1, 1) := by decide +kernel
theorem dX4_sweep_2 : decode cX4_sweep 2 = .ok (.iload_n 2, 1) := by decide +kernel
theorem dX4_sweep_3 : decode cX4_sweep 3 = .ok (.invokevirtual 103, 3) := by decide +kernel
theorem dX4_sweep_6 : decode cX4_sweep 6 = .ok (.ifCond .eq 13, 3) := by decide +kernel
theorem dX4_sweep_9 : decode cX4_sweep 9 = .ok (.iload_n 3, 1) := by decide +kernel
theorem dX4_sweep_10 : decode cX4_sweep 10 = .ok (.iconst 1, 1) := by decide +kernel
theorem dX4_sweep_11 : decode cX4_sweep 11 = .ok (.ldc 56, 2) := by decide +kernel
theorem dX4_sweep_13 : decode cX4_sweep 13 = .ok (.invokestatic 48, 3) := by decide +kernel
theorem dX4_sweep_16 : decode cX4_sweep 16 = .ok (.ifCond .ne 6, 3) := by decide +kernel
theorem dX4_sweep_19 : decode cX4_sweep 19 = .ok (.bipush (-2), 2) := by decide +kernel
theorem dX4_sweep_21 : decode cX4_sweep 21 = .ok (.ireturn, 1) := by decide +kernel
theorem dX4_sweep_22 : decode cX4_sweep 22 = .ok (.iload_n 3, 1) := by decide +kernel
theorem dX4_sweep_23 : decode cX4_sweep 23 = .ok (.istore 4, 2) := by decide +kernel
theorem dX4_sweep_25 : decode cX4_sweep 25 = .ok (.iload_n 1, 1) := by decide +kernel
theorem dX4_sweep_26 : decode cX4_sweep 26 = .ok (.istore 5, 2) := by decide +kernel
theorem dX4_sweep_28 : decode cX4_sweep 28 = .ok (.iload 5, 2) := by decide +kernel
theorem dX4_sweep_30 : decode cX4_sweep 30 = .ok (.iload_n 1, 1) := by decide +kernel
theorem dX4_sweep_31 : decode cX4_sweep 31 = .ok (.iload_n 2, 1) := by decide +kernel
theorem dX4_sweep_32 : decode cX4_sweep 32 = .ok (.iadd, 1) := by decide +kernel
theorem dX4_sweep_33 : decode cX4_sweep 33 = .ok (.if_icmp .ge 128, 3) := by decide +kernel
theorem dX4_sweep_36 : decode cX4_sweep 36 = .ok (.iload 4, 2) := by decide +kernel
theorem dX4_sweep_38 : decode cX4_sweep 38 = .ok (.ifCond .le 123, 3) := by decide +kernel
theorem dX4_sweep_41 : decode cX4_sweep 41 = .ok (.aload_n 0, 1) := by decide +kernel
theorem dX4_sweep_42 : decode cX4_sweep 42 = .ok (.iload 5, 2) := by decide +kernel
theorem dX4_sweep_44 : decode cX4_sweep 44 = .ok (.iconst 0, 1) := by decide +kernel
theorem dX4_sweep_45 : decode cX4_sweep 45 = .ok (.invokevirtual 106, 3) := by decide +kernel
theorem dX4_sweep_48 : decode cX4_sweep 48 = .ok (.istore 6, 2) := by decide +kernel
theorem dX4_sweep_50 : decode cX4_sweep 50 = .ok (.iload 6, 2) := by decide +kernel
theorem dX4_sweep_52 : decode cX4_sweep 52 = .ok (.ifCond .ne 12, 3) := by decide +kernel
theorem dX4_sweep_55 : decode cX4_sweep 55 = .ok (.aload_n 0, 1) := by decide +kernel
theorem dX4_sweep_56 : decode cX4_sweep 56 = .ok (.iload 5, 2) := by decide +kernel
theorem dX4_sweep_58 : decode cX4_sweep 58 = .ok (.iconst 1, 1) := by decide +kernel
theorem dX4_sweep_59 : decode cX4_sweep 59 = .ok (.invokevirtual 106, 3) := by decide +kernel
theorem dX4_sweep_62 : decode cX4_sweep 62 = .ok (.istore 6, 2) := by decide +kernel
theorem dX4_sweep_64 : decode cX4_sweep 64 = .ok (.iload 6, 2) := by decide +kernel
theorem dX4_sweep_66 : decode cX4_sweep 66 = .ok (.bipush (-7), 2) := by decide +kernel
theorem dX4_sweep_68 : decode cX4_sweep 68 = .ok (.if_icmp .ne 10, 3) := by decide +kernel
theorem dX4_sweep_71 : decode cX4_sweep 71 = .ok (.aload_n 0, 1) := by decide +kernel
theorem dX4_sweep_72 : decode cX4_sweep 72 = .ok (.bipush (-7), 2) := by decide +kernel
theorem dX4_sweep_74 : decode cX4_sweep 74 = .ok (.invokevirtual 94, 3) := by decide +kernel
theorem dX4_sweep_77 : decode cX4_sweep 77 = .ok (.ireturn, 1) := by decide +kernel
theorem dX4_sweep_78 : decode cX4_sweep 78 = .ok (.iload 6, 2) := by decide +kernel
theorem dX4_sweep_80 : decode cX4_sweep 80 = .ok (.iconst 1, 1) := by decide +kernel
theorem dX4_sweep_81 : decode cX4_sweep 81 = .ok (.if_icmp .ne 15, 3) := by decide +kernel
theorem dX4_sweep_84 : decode cX4_sweep 84 = .ok (.aload_n 0, 1) := by decide +kernel
theorem dX4_sweep_85 : decode cX4_sweep 85 = .ok (.sipush 500, 3) := by decide +kernel
theorem dX4_sweep_88 : decode cX4_sweep 88 = .ok (.iconst (-1), 1) := by decide +kernel
theorem dX4_sweep_89 : decode cX4_sweep 89 = .ok (.invokevirtual 88, 3) := by decide +kernel
theorem dX4_sweep_92 : decode cX4_sweep 92 = .ok (.pop, 1) := by decide +kernel
theorem dX4_sweep_93 : decode cX4_sweep 93 = .ok (.goto 62, 3) := by decide +kernel
theorem dX4_sweep_96 : decode cX4_sweep 96 = .ok (.aload_n 0, 1) := by decide +kernel
theorem dX4_sweep_97 : decode cX4_sweep 97 = .ok (.getfield 19, 3) := by decide +kernel
theorem dX4_sweep_100 : decode cX4_sweep 100 = .ok (.getfield 91, 3) := by decide +kernel
end
section
theorem dX4_sweep_103 : decode cX4_sweep 103 = .ok (.iload 5, 2) := by decide +kernel
theorem dX4_sweep_105 : decode cX4_sweep 105 = .ok (.iaload, 1) := by decide +kernel
theorem dX4_sweep_106 : decode cX4_sweep 106 = .ok (.iload 4, 2) := by decide +kernel
theorem dX4_sweep_108 : decode cX4_sweep 108 = .ok (.invokestatic 109, 3) := by decide +kernel
theorem dX4_sweep_111 : decode cX4_sweep 111 = .ok (.istore 7, 2) := by decide +kernel
theorem dX4_sweep_113 : decode cX4_sweep 113 = .ok (.aload_n 0, 1) := by decide +kernel
theorem dX4_sweep_114 : decode cX4_sweep 114 = .ok (.getfield 19, 3) := by decide +kernel
theorem dX4_sweep_117 : decode cX4_sweep 117 = .ok (.getfield 91, 3) := by decide +kernel
theorem dX4_sweep_120 : decode cX4_sweep 120 = .ok (.iload 5, 2) := by decide +kernel
theorem dX4_sweep_122 : decode cX4_sweep 122 = .ok (.dup2, 1) := by decide +kernel
theorem dX4_sweep_123 : decode cX4_sweep 123 = .ok (.iaload, 1) := by decide +kernel
theorem dX4_sweep_124 : decode cX4_sweep 124 = .ok (.iload 7, 2) := by decide +kernel
theorem dX4_sweep_126 : decode cX4_sweep 126 = .ok (.isub, 1) := by decide +kernel
theorem dX4_sweep_127 : decode cX4_sweep 127 = .ok (.iastore, 1) := by decide +kernel
theorem dX4_sweep_128 : decode cX4_sweep 128 = .ok (.iload 4, 2) := by decide +kernel
theorem dX4_sweep_130 : decode cX4_sweep 130 = .ok (.iload 7, 2) := by decide +kernel
theorem dX4_sweep_132 : decode cX4_sweep 132 = .ok (.isub, 1) := by decide +kernel
theorem dX4_sweep_133 : decode cX4_sweep 133 = .ok (.istore 4, 2) := by decide +kernel
theorem dX4_sweep_135 : decode cX4_sweep 135 = .ok (.aload_n 0, 1) := by decide +kernel
theorem dX4_sweep_136 : decode cX4_sweep 136 = .ok (.iload 4, 2) := by decide +kernel
theorem dX4_sweep_138 : decode cX4_sweep 138 = .ok (.ifCond .ne 9, 3) := by decide +kernel
theorem dX4_sweep_141 : decode cX4_sweep 141 = .ok (.sipush 400, 3) := by decide +kernel
theorem dX4_sweep_144 : decode cX4_sweep 144 = .ok (.goto 6, 3) := by decide +kernel
theorem dX4_sweep_147 : decode cX4_sweep 147 = .ok (.sipush 200, 3) := by decide +kernel
theorem dX4_sweep_150 : decode cX4_sweep 150 = .ok (.iconst (-1), 1) := by decide +kernel
theorem dX4_sweep_151 : decode cX4_sweep 151 = .ok (.invokevirtual 88, 3) := by decide +kernel
theorem dX4_sweep_154 : decode cX4_sweep 154 = .ok (.pop, 1) := by decide +kernel
theorem dX4_sweep_155 : decode cX4_sweep 155 = .ok (.iinc 5 1, 3) := by decide +kernel
theorem dX4_sweep_158 : decode cX4_sweep 158 = .ok (.goto (-130), 3) := by decide +kernel
theorem dX4_sweep_161 : decode cX4_sweep 161 = .ok (.iload_n 3, 1) := by decide +kernel
theorem dX4_sweep_162 : decode cX4_sweep 162 = .ok (.iload 4, 2) := by decide +kernel
theorem dX4_sweep_164 : decode cX4_sweep 164 = .ok (.isub, 1) := by decide +kernel
theorem dX4_sweep_165 : decode cX4_sweep 165 = .ok (.ireturn, 1) := by decide +kernel
theorem dX4_walk_0 : decode cX4_walk 0 = .ok (.aload_n 0, 1) := by decide +kernel
theorem dX4_walk_1 : decode cX4_walk 1 = .ok (.getfield 19, 3) := by decide +kernel
theorem dX4_walk_4 : decode cX4_walk 4 = .ok (.iload_n 1, 1) := by decide +kernel
theorem dX4_walk_5 : decode cX4_walk 5 = .ok (.invokevirtual 75, 3) := by decide +kernel
theorem dX4_walk_8 : decode cX4_walk 8 = .ok (.ifCond .eq 17, 3) := by decide +kernel
theorem dX4_walk_11 : decode cX4_walk 11 = .ok (.iload_n 2, 1) := by decide +kernel
theorem dX4_walk_12 : decode cX4_walk 12 = .ok (.iconst 1, 1) := by decide +kernel
theorem dX4_walk_13 : decode cX4_walk 13 = .ok (.bipush 60, 2) := by decide +kernel
theorem dX4_walk_15 : decode cX4_walk 15 = .ok (.invokestatic 48, 3) := by decide +kernel
theorem dX4_walk_18 : decode cX4_walk 18 = .ok (.ifCond .eq 7, 3) := by decide +kernel
theorem dX4_walk_21 : decode cX4_walk 21 = .ok (.iload_n 3, 1) := by decide +kernel
theorem dX4_walk_22 : decode cX4_walk 22 = .ok (.ifCond .ge 6, 3) := by decide +kernel
theorem dX4_walk_25 : decode cX4_walk 25 = .ok (.bipush (-2), 2) := by decide +kernel
theorem dX4_walk_27 : decode cX4_walk 27 = .ok (.ireturn, 1) := by decide +kernel
theorem dX4_walk_28 : decode cX4_walk 28 = .ok (.iconst 0, 1) := by decide +kernel
theorem dX4_walk_29 : decode cX4_walk 29 = .ok (.istore 4, 2) := by decide +kernel
theorem dX4_walk_31 : decode cX4_walk 31 = .ok (.iload_n 1, 1) := by decide +kernel
theorem dX4_walk_32 : decode cX4_walk 32 = .ok (.istore 5, 2) := by decide +kernel
theorem dX4_walk_34 : decode cX4_walk 34 = .ok (.iconst 0, 1) := by decide +kernel
theorem dX4_walk_35 : decode cX4_walk 35 = .ok (.istore 6, 2) := by decide +kernel
theorem dX4_walk_37 : decode cX4_walk 37 = .ok (.iload 6, 2) := by decide +kernel
theorem dX4_walk_39 : decode cX4_walk 39 = .ok (.iload_n 2, 1) := by decide +kernel
theorem dX4_walk_40 : decode cX4_walk 40 = .ok (.if_icmp .ge 93, 3) := by decide +kernel
theorem dX4_walk_43 : decode cX4_walk 43 = .ok (.aload_n 0, 1) := by decide +kernel
theorem dX4_walk_44 : decode cX4_walk 44 = .ok (.getfield 19, 3) := by decide +kernel
theorem dX4_walk_47 : decode cX4_walk 47 = .ok (.iload 5, 2) := by decide +kernel
theorem dX4_walk_49 : decode cX4_walk 49 = .ok (.invokevirtual 75, 3) := by decide +kernel
theorem dX4_walk_52 : decode cX4_walk 52 = .ok (.ifCond .eq 81, 3) := by decide +kernel
theorem dX4_walk_55 : decode cX4_walk 55 = .ok (.aload_n 0, 1) := by decide +kernel
theorem dX4_walk_56 : decode cX4_walk 56 = .ok (.iload 5, 2) := by decide +kernel
theorem dX4_walk_58 : decode cX4_walk 58 = .ok (.iconst 0, 1) := by decide +kernel
theorem dX4_walk_59 : decode cX4_walk 59 = .ok (.invokevirtual 106, 3) := by decide +kernel
theorem dX4_walk_62 : decode cX4_walk 62 = .ok (.istore 7, 2) := by decide +kernel
theorem dX4_walk_64 : decode cX4_walk 64 = .ok (.iload 7, 2) := by decide +kernel
theorem dX4_walk_66 : decode cX4_walk 66 = .ok (.bipush (-7), 2) := by decide +kernel
theorem dX4_walk_68 : decode cX4_walk 68 = .ok (.if_icmp .ne 10, 3) := by decide +kernel
theorem dX4_walk_71 : decode cX4_walk 71 = .ok (.aload_n 0, 1) := by decide +kernel
theorem dX4_walk_72 : decode cX4_walk 72 = .ok (.bipush (-7), 2) := by decide +kernel
theorem dX4_walk_74 : decode cX4_walk 74 = .ok (.invokevirtual 94, 3) := by decide +kernel
theorem dX4_walk_77 : decode cX4_walk 77 = .ok (.ireturn, 1) := by decide +kernel
theorem dX4_walk_78 : decode cX4_walk 78 = .ok (.iload 7, 2) := by decide +kernel
theorem dX4_walk_80 : decode cX4_walk 80 = .ok (.iconst 1, 1) := by decide +kernel
theorem dX4_walk_81 : decode cX4_walk 81 = .ok (.if_icmp .ne 6, 3) := by decide +kernel
theorem dX4_walk_84 : decode cX4_walk 84 = .ok (.goto 49, 3) := by decide +kernel
theorem dX4_walk_87 : decode cX4_walk 87 = .ok (.iload 4, 2) := by decide +kernel
theorem dX4_walk_89 : decode cX4_walk 89 = .ok (.aload_n 0, 1) := by decide +kernel
theorem dX4_walk_90 : decode cX4_walk 90 = .ok (.getfield 19, 3) := by decide +kernel
theorem dX4_walk_93 : decode cX4_walk 93 = .ok (.getfield 91, 3) := by decide +kernel
theorem dX4_walk_96 : decode cX4_walk 96 = .ok (.iload 5, 2) := by decide +kernel
theorem dX4_walk_98 : decode cX4_walk 98 = .ok (.iaload, 1) := by decide +kernel
theorem dX4_walk_99 : decode cX4_walk 99 = .ok (.iadd, 1) := by decide +kernel
theorem dX4_walk_100 : decode cX4_walk 100 = .ok (.istore 4, 2) := by decide +kernel
theorem dX4_walk_102 : decode cX4_walk 102 = .ok (.iload 4, 2) := by decide +kernel
theorem dX4_walk_104 : decode cX4_walk 104 = .ok (.iload_n 3, 1) := by decide +kernel
theorem dX4_walk_105 : decode cX4_walk 105 = .ok (.if_icmp .le 10, 3) := by decide +kernel
theorem dX4_walk_108 : decode cX4_walk 108 = .ok (.aload_n 0, 1) := by decide +kernel
theorem dX4_walk_109 : decode cX4_walk 109 = .ok (.bipush (-6), 2) := by decide +kernel
theorem dX4_walk_111 : decode cX4_walk 111 = .ok (.invokevirtual 94, 3) := by decide +kernel
theorem dX4_walk_114 : decode cX4_walk 114 = .ok (.ireturn, 1) := by decide +kernel
theorem dX4_walk_115 : decode cX4_walk 115 = .ok (.aload_n 0, 1) := by decide +kernel
theorem dX4_walk_116 : decode cX4_walk 116 = .ok (.getfield 19, 3) := by decide +kernel
theorem dX4_walk_119 : decode cX4_walk 119 = .ok (.getfield 76, 3) := by decide +kernel
theorem dX4_walk_122 : decode cX4_walk 122 = .ok (.iload 5, 2) := by decide +kernel
theorem dX4_walk_124 : decode cX4_walk 124 = .ok (.iaload, 1) := by decide +kernel
theorem dX4_walk_125 : decode cX4_walk 125 = .ok (.istore 5, 2) := by decide +kernel
theorem dX4_walk_127 : decode cX4_walk 127 = .ok (.iinc 6 1, 3) := by decide +kernel
theorem dX4_walk_130 : decode cX4_walk 130 = .ok (.goto (-93), 3) := by decide +kernel
theorem dX4_walk_133 : decode cX4_walk 133 = .ok (.aload_n 0, 1) := by decide +kernel
theorem dX4_walk_134 : decode cX4_walk 134 = .ok (.sipush 200, 3) := by decide +kernel
theorem dX4_walk_137 : decode cX4_walk 137 = .ok (.iload 4, 2) := by decide +kernel
theorem dX4_walk_139 : decode cX4_walk 139 = .ok (.invokevirtual 88, 3) := by decide +kernel
theorem dX4_walk_142 : decode cX4_walk 142 = .ok (.ireturn, 1) := by decide +kernel
theorem dX4_order_0 : decode cX4_order 0 = .ok (.aload_n 0, 1) := by decide +kernel
theorem dX4_order_1 : decode cX4_order 1 = .ok (.iload_n 1, 1) := by decide +kernel
theorem dX4_order_2 : decode cX4_order 2 = .ok (.iload_n 2, 1) := by decide +kernel
theorem dX4_order_3 : decode cX4_order 3 = .ok (.iload_n 3, 1) := by decide +kernel
theorem dX4_order_4 : decode cX4_order 4 = .ok (.iload 4, 2) := by decide +kernel
theorem dX4_order_6 : decode cX4_order 6 = .ok (.invokevirtual 114, 3) := by decide +kernel
theorem dX4_order_9 : decode cX4_order 9 = .ok (.ifCond .ne 6, 3) := by decide +kernel
theorem dX4_order_12 : decode cX4_order 12 = .ok (.bipush (-2), 2) := by decide +kernel
theorem dX4_order_14 : decode cX4_order 14 = .ok (.ireturn, 1) := by decide +kernel
theorem dX4_order_15 : decode cX4_order 15 = .ok (.aload_n 0, 1) := by decide +kernel
theorem dX4_order_16 : decode cX4_order 16 = .ok (.getfield 33, 3) := by decide +kernel
theorem dX4_order_19 : decode cX4_order 19 = .ok (.iload_n 1, 1) := by decide +kernel
theorem dX4_order_20 : decode cX4_order 20 = .ok (.iload_n 2, 1) := by decide +kernel
theorem dX4_order_21 : decode cX4_order 21 = .ok (.iload_n 3, 1) := by decide +kernel
theorem dX4_order_22 : decode cX4_order 22 = .ok (.iload 4, 2) := by decide +kernel
theorem dX4_order_24 : decode cX4_order 24 = .ok (.invokevirtual 118, 3) := by decide +kernel
theorem dX4_order_27 : decode cX4_order 27 = .ok (.ireturn, 1) := by decide +kernel
theorem dX4_run_0 : decode cX4_run 0 = .ok (.aload_n 0, 1) := by decide +kernel
theorem dX4_run_1 : decode cX4_run 1 = .ok (.getfield 33, 3) := by decide +kernel
theorem dX4_run_4 : decode cX4_run 4 = .ok (.getfield 121, 3) := by decide +kernel
theorem dX4_run_7 : decode cX4_run 7 = .ok (.istore_n 1, 1) := by decide +kernel
theorem dX4_run_8 : decode cX4_run 8 = .ok (.iconst 0, 1) := by decide +kernel
theorem dX4_run_9 : decode cX4_run 9 = .ok (.istore_n 2, 1) := by decide +kernel
theorem dX4_run_10 : decode cX4_run 10 = .ok (.iload_n 2, 1) := by decide +kernel
theorem dX4_run_11 : decode cX4_run 11 = .ok (.iload_n 1, 1) := by decide +kernel
theorem dX4_run_12 : decode cX4_run 12 = .ok (.if_icmp .ge 17, 3) := by decide +kernel
theorem dX4_run_15 : decode cX4_run 15 = .ok (.aload_n 0, 1) := by decide +kernel
theorem dX4_run_16 : decode cX4_run 16 = .ok (.iload_n 2, 1) := by decide +kernel
theorem dX4_run_17 : decode cX4_run 17 = .ok (.invokevirtual 124, 3) := by decide +kernel
theorem dX4_run_20 : decode cX4_run 20 = .ok (.ifCond .eq 9, 3) := by decide +kernel
theorem dX4_run_23 : decode cX4_run 23 = .ok (.iinc 2 1, 3) := by decide +kernel
theorem dX4_run_26 : decode cX4_run 26 = .ok (.goto (-16), 3) := by decide +kernel
theorem dX4_run_29 : decode cX4_run 29 = .ok (.aload_n 0, 1) := by decide +kernel
theorem dX4_run_30 : decode cX4_run 30 = .ok (.getfield 33, 3) := by decide +kernel
theorem dX4_run_33 : decode cX4_run 33 = .ok (.iconst 0, 1) := by decide +kernel
theorem dX4_run_34 : decode cX4_run 34 = .ok (.putfield 121, 3) := by decide +kernel
theorem dX4_run_37 : decode cX4_run 37 = .ok (.iload_n 2, 1) := by decide +kernel
theorem dX4_run_38 : decode cX4_run 38 = .ok (.ireturn, 1) := by decide +kernel
theorem dX4_sum_0 : decode cX4_sum 0 = .ok (.aload_n 0, 1) := by decide +kernel
theorem dX4_sum_1 : decode cX4_sum 1 = .ok (.getfield 19, 3) := by decide +kernel
theorem dX4_sum_4 : decode cX4_sum 4 = .ok (.iload_n 1, 1) := by decide +kernel
theorem dX4_sum_5 : decode cX4_sum 5 = .ok (.invokevirtual 75, 3) := by decide +kernel
theorem dX4_sum_8 : decode cX4_sum 8 = .ok (.ifCond .eq 15, 3) := by decide +kernel
theorem dX4_sum_11 : decode cX4_sum 11 = .ok (.aload_n 0, 1) := by decide +kernel
theorem dX4_sum_12 : decode cX4_sum 12 = .ok (.getfield 19, 3) := by decide +kernel
theorem dX4_sum_15 : decode cX4_sum 15 = .ok (.getfield 91, 3) := by decide +kernel
theorem dX4_sum_18 : decode cX4_sum 18 = .ok (.iload_n 1, 1) := by decide +kernel
theorem dX4_sum_19 : decode cX4_sum 19 = .ok (.iaload, 1) := by decide +kernel
theorem dX4_sum_20 : decode cX4_sum 20 = .ok (.goto 5, 3) := by decide +kernel
theorem dX4_sum_23 : decode cX4_sum 23 = .ok (.bipush (-2), 2) := by decide +kernel
theorem dX4_sum_25 : decode cX4_sum 25 = .ok (.ireturn, 1) := by decide +kernel
theorem dX4_hung_0 : decode cX4_hung 0 = .ok (.aload_n 0, 1) := by decide +kernel
theorem dX4_hung_1 : decode cX4_hung 1 = .ok (.getfield 19, 3) := by decide +kernel
theorem dX4_hung_4 : decode cX4_hung 4 = .ok (.iload_n 1, 1) := by decide +kernel
theorem dX4_hung_5 : decode cX4_hung 5 = .ok (.iload_n 2, 1) := by decide +kernel
theorem dX4_hung_6 : decode cX4_hung 6 = .ok (.invokevirtual 60, 3) := by decide +kernel
theorem dX4_hung_9 : decode cX4_hung 9 = .ok (.ifCond .eq 15, 3) := by decide +kernel
theorem dX4_hung_12 : decode cX4_hung 12 = .ok (.aload_n 0, 1) := by decide +kernel
theorem dX4_hung_13 : decode cX4_hung 13 = .ok (.getfield 19, 3) := by decide +kernel
theorem dX4_hung_16 : decode cX4_hung 16 = .ok (.iload_n 1, 1) := by decide +kernel
theorem dX4_hung_17 : decode cX4_hung 17 = .ok (.iload_n 2, 1) := by decide +kernel
theorem dX4_hung_18 : decode cX4_hung 18 = .ok (.invokevirtual 68, 3) := by decide +kernel
theorem dX4_hung_21 : decode cX4_hung 21 = .ok (.goto 5, 3) := by decide +kernel
theorem dX4_hung_24 : decode cX4_hung 24 = .ok (.bipush (-2), 2) := by decide +kernel
theorem dX4_hung_26 : decode cX4_hung 26 = .ok (.ireturn, 1) := by decide +kernel
theorem dX4_wear_0 : decode cX4_wear 0 = .ok (.aload_n 0, 1) := by decide +kernel
theorem dX4_wear_1 : decode cX4_wear 1 = .ok (.getfield 10, 3) := by decide +kernel
theorem dX4_wear_4 : decode cX4_wear 4 = .ok (.iload_n 1, 1) := by decide +kernel
theorem dX4_wear_5 : decode cX4_wear 5 = .ok (.invokevirtual 64, 3) := by decide +kernel
theorem dX4_wear_8 : decode cX4_wear 8 = .ok (.ifCond .eq 15, 3) := by decide +kernel
theorem dX4_wear_11 : decode cX4_wear 11 = .ok (.aload_n 0, 1) := by decide +kernel
theorem dX4_wear_12 : decode cX4_wear 12 = .ok (.getfield 10, 3) := by decide +kernel
theorem dX4_wear_15 : decode cX4_wear 15 = .ok (.getfield 100, 3) := by decide +kernel
theorem dX4_wear_18 : decode cX4_wear 18 = .ok (.iload_n 1, 1) := by decide +kernel
theorem dX4_wear_19 : decode cX4_wear 19 = .ok (.iaload, 1) := by decide +kernel
theorem dX4_wear_20 : decode cX4_wear 20 = .ok (.goto 5, 3) := by decide +kernel
theorem dX4_wear_23 : decode cX4_wear 23 = .ok (.bipush (-2), 2) := by decide +kernel
theorem dX4_wear_25 : decode cX4_wear 25 = .ok (.ireturn, 1) := by decide +kernel
theorem dX4_entries_0 : decode cX4_entries 0 = .ok (.aload_n 0, 1) := by decide +kernel
theorem dX4_entries_1 : decode cX4_entries 1 = .ok (.getfield 26, 3) := by decide +kernel
theorem dX4_entries_4 : decode cX4_entries 4 = .ok (.getfield 127, 3) := by decide +kernel
theorem dX4_entries_7 : decode cX4_entries 7 = .ok (.ireturn, 1) := by decide +kernel
theorem dX4_entry_0 : decode cX4_entry 0 = .ok (.aload_n 0, 1) := by decide +kernel
theorem dX4_entry_1 : decode cX4_entry 1 = .ok (.getfield 26, 3) := by decide +kernel
theorem dX4_entry_4 : decode cX4_entry 4 = .ok (.iload_n 1, 1) := by decide +kernel
theorem dX4_entry_5 : decode cX4_entry 5 = .ok (.invokevirtual 128, 3) := by decide +kernel
theorem dX4_entry_8 : decode cX4_entry 8 = .ok (.ireturn, 1) := by decide +kernel
theorem dX4_clear_0 : decode cX4_clear 0 = .ok (.aload_n 0, 1) := by decide +kernel
theorem dX4_clear_1 : decode cX4_clear 1 = .ok (.getfield 26, 3) := by decide +kernel
theorem dX4_clear_4 : decode cX4_clear 4 = .ok (.getfield 127, 3) := by decide +kernel
theorem dX4_clear_7 : decode cX4_clear 7 = .ok (.istore_n 1, 1) := by decide +kernel
theorem dX4_clear_8 : decode cX4_clear 8 = .ok (.aload_n 0, 1) := by decide +kernel
theorem dX4_clear_9 : decode cX4_clear 9 = .ok (.getfield 26, 3) := by decide +kernel
theorem dX4_clear_12 : decode cX4_clear 12 = .ok (.iconst 0, 1) := by decide +kernel
theorem dX4_clear_13 : decode cX4_clear 13 = .ok (.putfield 127, 3) := by decide +kernel
theorem dX4_clear_16 : decode cX4_clear 16 = .ok (.iload_n 1, 1) := by decide +kernel
theorem dX4_clear_17 : decode cX4_clear 17 = .ok (.ireturn, 1) := by decide +kernel
theorem dX4_alarms_0 : decode cX4_alarms 0 = .ok (.aload_n 0, 1) := by decide +kernel
theorem dX4_alarms_1 : decode cX4_alarms 1 = .ok (.getfield 45, 3) := by decide +kernel
theorem dX4_alarms_4 : decode cX4_alarms 4 = .ok (.ireturn, 1) := by decide +kernel
theorem dX4_orders_0 : decode cX4_orders 0 = .ok (.aload_n 0, 1) := by decide +kernel
theorem dX4_orders_1 : decode cX4_orders 1 = .ok (.getfield 33, 3) := by decide +kernel
theorem dX4_orders_4 : decode cX4_orders 4 = .ok (.getfield 121, 3) := by decide +kernel
theorem dX4_orders_7 : decode cX4_orders 7 = .ok (.ireturn, 1) := by decide +kernel
theorem dX4_turnBoth_0 : decode cX4_turnBoth 0 = .ok (.aload_n 0, 1) := by decide +kernel
theorem dX4_turnBoth_1 : decode cX4_turnBoth 1 = .ok (.iload_n 1, 1) := by decide +kernel
theorem dX4_turnBoth_2 : decode cX4_turnBoth 2 = .ok (.iconst 0, 1) := by decide +kernel
theorem dX4_turnBoth_3 : decode cX4_turnBoth 3 = .ok (.invokevirtual 106, 3) := by decide +kernel
theorem dX4_turnBoth_6 : decode cX4_turnBoth 6 = .ok (.istore_n 2, 1) := by decide +kernel
theorem dX4_turnBoth_7 : decode cX4_turnBoth 7 = .ok (.iload_n 2, 1) := by decide +kernel
theorem dX4_turnBoth_8 : decode cX4_turnBoth 8 = .ok (.ifCond .ne 10, 3) := by decide +kernel
theorem dX4_turnBoth_11 : decode cX4_turnBoth 11 = .ok (.aload_n 0, 1) := by decide +kernel
theorem dX4_turnBoth_12 : decode cX4_turnBoth 12 = .ok (.iload_n 1, 1) := by decide +kernel
theorem dX4_turnBoth_13 : decode cX4_turnBoth 13 = .ok (.iconst 1, 1) := by decide +kernel
theorem dX4_turnBoth_14 : decode cX4_turnBoth 14 = .ok (.invokevirtual 106, 3) := by decide +kernel
theorem dX4_turnBoth_17 : decode cX4_turnBoth 17 = .ok (.istore_n 2, 1) := by decide +kernel
theorem dX4_turnBoth_18 : decode cX4_turnBoth 18 = .ok (.iload_n 2, 1) := by decide +kernel
theorem dX4_turnBoth_19 : decode cX4_turnBoth 19 = .ok (.bipush (-7), 2) := by decide +kernel
theorem dX4_turnBoth_21 : decode cX4_turnBoth 21 = .ok (.if_icmp .ne 10, 3) := by decide +kernel
theorem dX4_turnBoth_24 : decode cX4_turnBoth 24 = .ok (.aload_n 0, 1) := by decide +kernel
theorem dX4_turnBoth_25 : decode cX4_turnBoth 25 = .ok (.bipush (-7), 2) := by decide +kernel
theorem dX4_turnBoth_27 : decode cX4_turnBoth 27 = .ok (.invokevirtual 94, 3) := by decide +kernel
theorem dX4_turnBoth_30 : decode cX4_turnBoth 30 = .ok (.ireturn, 1) := by decide +kernel
theorem dX4_turnBoth_31 : decode cX4_turnBoth 31 = .ok (.iload_n 2, 1) := by decide +kernel
theorem dX4_turnBoth_32 : decode cX4_turnBoth 32 = .ok (.iconst 1, 1) := by decide +kernel
theorem dX4_turnBoth_33 : decode cX4_turnBoth 33 = .ok (.if_icmp .ne 13, 3) := by decide +kernel
theorem dX4_turnBoth_36 : decode cX4_turnBoth 36 = .ok (.aload_n 0, 1) := by decide +kernel
theorem dX4_turnBoth_37 : decode cX4_turnBoth 37 = .ok (.sipush 300, 3) := by decide +kernel
theorem dX4_turnBoth_40 : decode cX4_turnBoth 40 = .ok (.bipush (-4), 2) := by decide +kernel
theorem dX4_turnBoth_42 : decode cX4_turnBoth 42 = .ok (.invokevirtual 88, 3) := by decide +kernel
theorem dX4_turnBoth_45 : decode cX4_turnBoth 45 = .ok (.ireturn, 1) := by decide +kernel
theorem dX4_turnBoth_46 : decode cX4_turnBoth 46 = .ok (.iconst 0, 1) := by decide +kernel
theorem dX4_turnBoth_47 : decode cX4_turnBoth 47 = .ok (.ireturn, 1) := by decide +kernel
theorem dX4_turnHand_0 : decode cX4_turnHand 0 = .ok (.aload_n 0, 1) := by decide +kernel
theorem dX4_turnHand_1 : decode cX4_turnHand 1 = .ok (.getfield 19, 3) := by decide +kernel
theorem dX4_turnHand_4 : decode cX4_turnHand 4 = .ok (.iload_n 1, 1) := by decide +kernel
theorem dX4_turnHand_5 : decode cX4_turnHand 5 = .ok (.iload_n 2, 1) := by decide +kernel
theorem dX4_turnHand_6 : decode cX4_turnHand 6 = .ok (.invokevirtual 68, 3) := by decide +kernel
theorem dX4_turnHand_9 : decode cX4_turnHand 9 = .ok (.istore_n 3, 1) := by decide +kernel
theorem dX4_turnHand_10 : decode cX4_turnHand 10 = .ok (.aload_n 0, 1) := by decide +kernel
theorem dX4_turnHand_11 : decode cX4_turnHand 11 = .ok (.getfield 10, 3) := by decide +kernel
theorem dX4_turnHand_14 : decode cX4_turnHand 14 = .ok (.iload_n 3, 1) := by decide +kernel
theorem dX4_turnHand_15 : decode cX4_turnHand 15 = .ok (.invokevirtual 64, 3) := by decide +kernel
theorem dX4_turnHand_18 : decode cX4_turnHand 18 = .ok (.ifCond .ne 16, 3) := by decide +kernel
theorem dX4_turnHand_21 : decode cX4_turnHand 21 = .ok (.aload_n 0, 1) := by decide +kernel
theorem dX4_turnHand_22 : decode cX4_turnHand 22 = .ok (.getfield 26, 3) := by decide +kernel
theorem dX4_turnHand_25 : decode cX4_turnHand 25 = .ok (.bipush 10, 2) := by decide +kernel
theorem dX4_turnHand_27 : decode cX4_turnHand 27 = .ok (.iload_n 2, 1) := by decide +kernel
theorem dX4_turnHand_28 : decode cX4_turnHand 28 = .ok (.iadd, 1) := by decide +kernel
theorem dX4_turnHand_29 : decode cX4_turnHand 29 = .ok (.invokevirtual 131, 3) := by decide +kernel
theorem dX4_turnHand_32 : decode cX4_turnHand 32 = .ok (.iconst 1, 1) := by decide +kernel
theorem dX4_turnHand_33 : decode cX4_turnHand 33 = .ok (.ireturn, 1) := by decide +kernel
theorem dX4_turnHand_34 : decode cX4_turnHand 34 = .ok (.aload_n 0, 1) := by decide +kernel
theorem dX4_turnHand_35 : decode cX4_turnHand 35 = .ok (.iload_n 3, 1) := by decide +kernel
theorem dX4_turnHand_36 : decode cX4_turnHand 36 = .ok (.invokevirtual 97, 3) := by decide +kernel
theorem dX4_turnHand_39 : decode cX4_turnHand 39 = .ok (.ireturn, 1) := by decide +kernel
theorem dX4_turnKey_0 : decode cX4_turnKey 0 = .ok (.aload_n 0, 1) := by decide +kernel
theorem dX4_turnKey_1 : decode cX4_turnKey 1 = .ok (.getfield 10, 3) := by decide +kernel
theorem dX4_turnKey_4 : decode cX4_turnKey 4 = .ok (.getfield 135, 3) := by decide +kernel
theorem dX4_turnKey_7 : decode cX4_turnKey 7 = .ok (.iload_n 1, 1) := by decide +kernel
theorem dX4_turnKey_8 : decode cX4_turnKey 8 = .ok (.iaload, 1) := by decide +kernel
theorem dX4_turnKey_9 : decode cX4_turnKey 9 = .ok (.aload_n 0, 1) := by decide +kernel
theorem dX4_turnKey_10 : decode cX4_turnKey 10 = .ok (.getfield 10, 3) := by decide +kernel
theorem dX4_turnKey_13 : decode cX4_turnKey 13 = .ok (.getfield 138, 3) := by decide +kernel
theorem dX4_turnKey_16 : decode cX4_turnKey 16 = .ok (.iload_n 1, 1) := by decide +kernel
theorem dX4_turnKey_17 : decode cX4_turnKey 17 = .ok (.iaload, 1) := by decide +kernel
theorem dX4_turnKey_18 : decode cX4_turnKey 18 = .ok (.if_icmp .ge 15, 3) := by decide +kernel
theorem dX4_turnKey_21 : decode cX4_turnKey 21 = .ok (.aload_n 0, 1) := by decide +kernel
theorem dX4_turnKey_22 : decode cX4_turnKey 22 = .ok (.getfield 41, 3) := by decide +kernel
theorem dX4_turnKey_25 : decode cX4_turnKey 25 = .ok (.aload_n 0, 1) := by decide +kernel
theorem dX4_turnKey_26 : decode cX4_turnKey 26 = .ok (.getfield 37, 3) := by decide +kernel
theorem dX4_turnKey_29 : decode cX4_turnKey 29 = .ok (.arraylength, 1) := by decide +kernel
theorem dX4_turnKey_30 : decode cX4_turnKey 30 = .ok (.if_icmp .lt 18, 3) := by decide +kernel
theorem dX4_turnKey_33 : decode cX4_turnKey 33 = .ok (.aload_n 0, 1) := by decide +kernel
theorem dX4_turnKey_34 : decode cX4_turnKey 34 = .ok (.getfield 26, 3) := by decide +kernel
theorem dX4_turnKey_37 : decode cX4_turnKey 37 = .ok (.sipush 700, 3) := by decide +kernel
theorem dX4_turnKey_40 : decode cX4_turnKey 40 = .ok (.iload_n 1, 1) := by decide +kernel
theorem dX4_turnKey_41 : decode cX4_turnKey 41 = .ok (.iadd, 1) := by decide +kernel
theorem dX4_turnKey_42 : decode cX4_turnKey 42 = .ok (.invokevirtual 131, 3) := by decide +kernel
theorem dX4_turnKey_45 : decode cX4_turnKey 45 = .ok (.bipush (-7), 2) := by decide +kernel
theorem dX4_turnKey_47 : decode cX4_turnKey 47 = .ok (.ireturn, 1) := by decide +kernel
theorem dX4_turnKey_48 : decode cX4_turnKey 48 = .ok (.aload_n 0, 1) := by decide +kernel
theorem dX4_turnKey_49 : decode cX4_turnKey 49 = .ok (.getfield 10, 3) := by decide +kernel
theorem dX4_turnKey_52 : decode cX4_turnKey 52 = .ok (.getfield 100, 3) := by decide +kernel
theorem dX4_turnKey_55 : decode cX4_turnKey 55 = .ok (.iload_n 1, 1) := by decide +kernel
theorem dX4_turnKey_56 : decode cX4_turnKey 56 = .ok (.dup2, 1) := by decide +kernel
theorem dX4_turnKey_57 : decode cX4_turnKey 57 = .ok (.iaload, 1) := by decide +kernel
theorem dX4_turnKey_58 : decode cX4_turnKey 58 = .ok (.aload_n 0, 1) := by decide +kernel
theorem dX4_turnKey_59 : decode cX4_turnKey 59 = .ok (.getfield 10, 3) := by decide +kernel
theorem dX4_turnKey_62 : decode cX4_turnKey 62 = .ok (.getfield 141, 3) := by decide +kernel
theorem dX4_turnKey_65 : decode cX4_turnKey 65 = .ok (.iload_n 1, 1) := by decide +kernel
theorem dX4_turnKey_66 : decode cX4_turnKey 66 = .ok (.iaload, 1) := by decide +kernel
theorem dX4_turnKey_67 : decode cX4_turnKey 67 = .ok (.iadd, 1) := by decide +kernel
theorem dX4_turnKey_68 : decode cX4_turnKey 68 = .ok (.iastore, 1) := by decide +kernel
theorem dX4_turnKey_69 : decode cX4_turnKey 69 = .ok (.aload_n 0, 1) := by decide +kernel
theorem dX4_turnKey_70 : decode cX4_turnKey 70 = .ok (.getfield 10, 3) := by decide +kernel
theorem dX4_turnKey_73 : decode cX4_turnKey 73 = .ok (.getfield 135, 3) := by decide +kernel
theorem dX4_turnKey_76 : decode cX4_turnKey 76 = .ok (.iload_n 1, 1) := by decide +kernel
theorem dX4_turnKey_77 : decode cX4_turnKey 77 = .ok (.dup2, 1) := by decide +kernel
theorem dX4_turnKey_78 : decode cX4_turnKey 78 = .ok (.iaload, 1) := by decide +kernel
theorem dX4_turnKey_79 : decode cX4_turnKey 79 = .ok (.iconst 1, 1) := by decide +kernel
theorem dX4_turnKey_80 : decode cX4_turnKey 80 = .ok (.iadd, 1) := by decide +kernel
theorem dX4_turnKey_81 : decode cX4_turnKey 81 = .ok (.iastore, 1) := by decide +kernel
theorem dX4_turnKey_82 : decode cX4_turnKey 82 = .ok (.aload_n 0, 1) := by decide +kernel
theorem dX4_turnKey_83 : decode cX4_turnKey 83 = .ok (.getfield 37, 3) := by decide +kernel
theorem dX4_turnKey_86 : decode cX4_turnKey 86 = .ok (.aload_n 0, 1) := by decide +kernel
theorem dX4_turnKey_87 : decode cX4_turnKey 87 = .ok (.getfield 41, 3) := by decide +kernel
theorem dX4_turnKey_90 : decode cX4_turnKey 90 = .ok (.iload_n 1, 1) := by decide +kernel
theorem dX4_turnKey_91 : decode cX4_turnKey 91 = .ok (.iastore, 1) := by decide +kernel
theorem dX4_turnKey_92 : decode cX4_turnKey 92 = .ok (.aload_n 0, 1) := by decide +kernel
theorem dX4_turnKey_93 : decode cX4_turnKey 93 = .ok (.dup, 1) := by decide +kernel
theorem dX4_turnKey_94 : decode cX4_turnKey 94 = .ok (.getfield 41, 3) := by decide +kernel
theorem dX4_turnKey_97 : decode cX4_turnKey 97 = .ok (.iconst 1, 1) := by decide +kernel
theorem dX4_turnKey_98 : decode cX4_turnKey 98 = .ok (.iadd, 1) := by decide +kernel
theorem dX4_turnKey_99 : decode cX4_turnKey 99 = .ok (.putfield 41, 3) := by decide +kernel
theorem dX4_turnKey_102 : decode cX4_turnKey 102 = .ok (.aload_n 0, 1) := by decide +kernel
theorem dX4_turnKey_103 : decode cX4_turnKey 103 = .ok (.getfield 26, 3) := by decide +kernel
theorem dX4_turnKey_106 : decode cX4_turnKey 106 = .ok (.bipush 100, 2) := by decide +kernel
theorem dX4_turnKey_108 : decode cX4_turnKey 108 = .ok (.iload_n 1, 1) := by decide +kernel
theorem dX4_turnKey_109 : decode cX4_turnKey 109 = .ok (.iadd, 1) := by decide +kernel
theorem dX4_turnKey_110 : decode cX4_turnKey 110 = .ok (.invokevirtual 131, 3) := by decide +kernel
theorem dX4_turnKey_113 : decode cX4_turnKey 113 = .ok (.iconst 0, 1) := by decide +kernel
theorem dX4_turnKey_114 : decode cX4_turnKey 114 = .ok (.ireturn, 1) := by decide +kernel
theorem dX4_letGo_0 : decode cX4_letGo 0 = .ok (.aload_n 0, 1) := by decide +kernel
theorem dX4_letGo_1 : decode cX4_letGo 1 = .ok (.getfield 41, 3) := by decide +kernel
theorem dX4_letGo_4 : decode cX4_letGo 4 = .ok (.iconst 1, 1) := by decide +kernel
theorem dX4_letGo_5 : decode cX4_letGo 5 = .ok (.isub, 1) := by decide +kernel
theorem dX4_letGo_6 : decode cX4_letGo 6 = .ok (.istore_n 3, 1) := by decide +kernel
theorem dX4_letGo_7 : decode cX4_letGo 7 = .ok (.iload_n 3, 1) := by decide +kernel
theorem dX4_letGo_8 : decode cX4_letGo 8 = .ok (.ifCond .lt 42, 3) := by decide +kernel
theorem dX4_letGo_11 : decode cX4_letGo 11 = .ok (.aload_n 0, 1) := by decide +kernel
theorem dX4_letGo_12 : decode cX4_letGo 12 = .ok (.getfield 37, 3) := by decide +kernel
theorem dX4_letGo_15 : decode cX4_letGo 15 = .ok (.iload_n 3, 1) := by decide +kernel
theorem dX4_letGo_16 : decode cX4_letGo 16 = .ok (.iaload, 1) := by decide +kernel
theorem dX4_letGo_17 : decode cX4_letGo 17 = .ok (.istore 4, 2) := by decide +kernel
theorem dX4_letGo_19 : decode cX4_letGo 19 = .ok (.aload_n 0, 1) := by decide +kernel
theorem dX4_letGo_20 : decode cX4_letGo 20 = .ok (.getfield 10, 3) := by decide +kernel
theorem dX4_letGo_23 : decode cX4_letGo 23 = .ok (.getfield 135, 3) := by decide +kernel
theorem dX4_letGo_26 : decode cX4_letGo 26 = .ok (.iload 4, 2) := by decide +kernel
theorem dX4_letGo_28 : decode cX4_letGo 28 = .ok (.dup2, 1) := by decide +kernel
theorem dX4_letGo_29 : decode cX4_letGo 29 = .ok (.iaload, 1) := by decide +kernel
theorem dX4_letGo_30 : decode cX4_letGo 30 = .ok (.iconst 1, 1) := by decide +kernel
theorem dX4_letGo_31 : decode cX4_letGo 31 = .ok (.isub, 1) := by decide +kernel
theorem dX4_letGo_32 : decode cX4_letGo 32 = .ok (.iastore, 1) := by decide +kernel
theorem dX4_letGo_33 : decode cX4_letGo 33 = .ok (.aload_n 0, 1) := by decide +kernel
theorem dX4_letGo_34 : decode cX4_letGo 34 = .ok (.getfield 26, 3) := by decide +kernel
theorem dX4_letGo_37 : decode cX4_letGo 37 = .ok (.iload_n 1, 1) := by decide +kernel
theorem dX4_letGo_38 : decode cX4_letGo 38 = .ok (.iload 4, 2) := by decide +kernel
theorem dX4_letGo_40 : decode cX4_letGo 40 = .ok (.iadd, 1) := by decide +kernel
theorem dX4_letGo_41 : decode cX4_letGo 41 = .ok (.invokevirtual 131, 3) := by decide +kernel
theorem dX4_letGo_44 : decode cX4_letGo 44 = .ok (.iinc 3 (-1), 3) := by decide +kernel
theorem dX4_letGo_47 : decode cX4_letGo 47 = .ok (.goto (-40), 3) := by decide +kernel
theorem dX4_letGo_50 : decode cX4_letGo 50 = .ok (.aload_n 0, 1) := by decide +kernel
theorem dX4_letGo_51 : decode cX4_letGo 51 = .ok (.iconst 0, 1) := by decide +kernel
theorem dX4_letGo_52 : decode cX4_letGo 52 = .ok (.putfield 41, 3) := by decide +kernel
theorem dX4_letGo_55 : decode cX4_letGo 55 = .ok (.iload_n 2, 1) := by decide +kernel
theorem dX4_letGo_56 : decode cX4_letGo 56 = .ok (.ireturn, 1) := by decide +kernel
theorem dX4_raiseAlarm_0 : decode cX4_raiseAlarm 0 = .ok (.aload_n 0, 1) := by decide +kernel
theorem dX4_raiseAlarm_1 : decode cX4_raiseAlarm 1 = .ok (.dup, 1) := by decide +kernel
theorem dX4_raiseAlarm_2 : decode cX4_raiseAlarm 2 = .ok (.getfield 45, 3) := by decide +kernel
theorem dX4_raiseAlarm_5 : decode cX4_raiseAlarm 5 = .ok (.iconst 1, 1) := by decide +kernel
theorem dX4_raiseAlarm_6 : decode cX4_raiseAlarm 6 = .ok (.iadd, 1) := by decide +kernel
theorem dX4_raiseAlarm_7 : decode cX4_raiseAlarm 7 = .ok (.putfield 45, 3) := by decide +kernel
theorem dX4_raiseAlarm_10 : decode cX4_raiseAlarm 10 = .ok (.aload_n 0, 1) := by decide +kernel
theorem dX4_raiseAlarm_11 : decode cX4_raiseAlarm 11 = .ok (.sipush 600, 3) := by decide +kernel
theorem dX4_raiseAlarm_14 : decode cX4_raiseAlarm 14 = .ok (.iload_n 1, 1) := by decide +kernel
theorem dX4_raiseAlarm_15 : decode cX4_raiseAlarm 15 = .ok (.invokevirtual 88, 3) := by decide +kernel
theorem dX4_raiseAlarm_18 : decode cX4_raiseAlarm 18 = .ok (.ireturn, 1) := by decide +kernel
theorem dX4_isOrder_0 : decode cX4_isOrder 0 = .ok (.iload_n 1, 1) := by decide +kernel
theorem dX4_isOrder_1 : decode cX4_isOrder 1 = .ok (.tableswitch 107 0 4 #[35, 35, 60, 96, 105], 35) := by decide +kernel
theorem dX4_isOrder_36 : decode cX4_isOrder 36 = .ok (.aload_n 0, 1) := by decide +kernel
theorem dX4_isOrder_37 : decode cX4_isOrder 37 = .ok (.getfield 19, 3) := by decide +kernel
theorem dX4_isOrder_40 : decode cX4_isOrder 40 = .ok (.iload_n 2, 1) := by decide +kernel
theorem dX4_isOrder_41 : decode cX4_isOrder 41 = .ok (.invokevirtual 75, 3) := by decide +kernel
theorem dX4_isOrder_44 : decode cX4_isOrder 44 = .ok (.ifCond .eq 15, 3) := by decide +kernel
theorem dX4_isOrder_47 : decode cX4_isOrder 47 = .ok (.iload 4, 2) := by decide +kernel
theorem dX4_isOrder_49 : decode cX4_isOrder 49 = .ok (.invokestatic 79, 3) := by decide +kernel
theorem dX4_isOrder_52 : decode cX4_isOrder 52 = .ok (.ifCond .eq 7, 3) := by decide +kernel
theorem dX4_isOrder_55 : decode cX4_isOrder 55 = .ok (.iconst 1, 1) := by decide +kernel
theorem dX4_isOrder_56 : decode cX4_isOrder 56 = .ok (.goto 4, 3) := by decide +kernel
theorem dX4_isOrder_59 : decode cX4_isOrder 59 = .ok (.iconst 0, 1) := by decide +kernel
theorem dX4_isOrder_60 : decode cX4_isOrder 60 = .ok (.ireturn, 1) := by decide +kernel
theorem dX4_isOrder_61 : decode cX4_isOrder 61 = .ok (.aload_n 0, 1) := by decide +kernel
theorem dX4_isOrder_62 : decode cX4_isOrder 62 = .ok (.getfield 19, 3) := by decide +kernel
theorem dX4_isOrder_65 : decode cX4_isOrder 65 = .ok (.iload_n 2, 1) := by decide +kernel
theorem dX4_isOrder_66 : decode cX4_isOrder 66 = .ok (.invokevirtual 75, 3) := by decide +kernel
theorem dX4_isOrder_69 : decode cX4_isOrder 69 = .ok (.ifCond .eq 26, 3) := by decide +kernel
theorem dX4_isOrder_72 : decode cX4_isOrder 72 = .ok (.aload_n 0, 1) := by decide +kernel
theorem dX4_isOrder_73 : decode cX4_isOrder 73 = .ok (.getfield 19, 3) := by decide +kernel
theorem dX4_isOrder_76 : decode cX4_isOrder 76 = .ok (.iload_n 3, 1) := by decide +kernel
theorem dX4_isOrder_77 : decode cX4_isOrder 77 = .ok (.invokevirtual 75, 3) := by decide +kernel
theorem dX4_isOrder_80 : decode cX4_isOrder 80 = .ok (.ifCond .eq 15, 3) := by decide +kernel
theorem dX4_isOrder_83 : decode cX4_isOrder 83 = .ok (.iload 4, 2) := by decide +kernel
theorem dX4_isOrder_85 : decode cX4_isOrder 85 = .ok (.invokestatic 79, 3) := by decide +kernel
theorem dX4_isOrder_88 : decode cX4_isOrder 88 = .ok (.ifCond .eq 7, 3) := by decide +kernel
theorem dX4_isOrder_91 : decode cX4_isOrder 91 = .ok (.iconst 1, 1) := by decide +kernel
theorem dX4_isOrder_92 : decode cX4_isOrder 92 = .ok (.goto 4, 3) := by decide +kernel
theorem dX4_isOrder_95 : decode cX4_isOrder 95 = .ok (.iconst 0, 1) := by decide +kernel
theorem dX4_isOrder_96 : decode cX4_isOrder 96 = .ok (.ireturn, 1) := by decide +kernel
theorem dX4_isOrder_97 : decode cX4_isOrder 97 = .ok (.aload_n 0, 1) := by decide +kernel
theorem dX4_isOrder_98 : decode cX4_isOrder 98 = .ok (.getfield 19, 3) := by decide +kernel
theorem dX4_isOrder_101 : decode cX4_isOrder 101 = .ok (.iload_n 2, 1) := by decide +kernel
theorem dX4_isOrder_102 : decode cX4_isOrder 102 = .ok (.invokevirtual 75, 3) := by decide +kernel
theorem dX4_isOrder_105 : decode cX4_isOrder 105 = .ok (.ireturn, 1) := by decide +kernel
theorem dX4_isOrder_106 : decode cX4_isOrder 106 = .ok (.iconst 1, 1) := by decide +kernel
theorem dX4_isOrder_107 : decode cX4_isOrder 107 = .ok (.ireturn, 1) := by decide +kernel
theorem dX4_isOrder_108 : decode cX4_isOrder 108 = .ok (.iconst 0, 1) := by decide +kernel
theorem dX4_isOrder_109 : decode cX4_isOrder 109 = .ok (.ireturn, 1) := by decide +kernel
theorem dX4_doOrder_0 : decode cX4_doOrder 0 = .ok (.aload_n 0, 1) := by decide +kernel
theorem dX4_doOrder_1 : decode cX4_doOrder 1 = .ok (.getfield 33, 3) := by decide +kernel
theorem dX4_doOrder_4 : decode cX4_doOrder 4 = .ok (.getfield 144, 3) := by decide +kernel
theorem dX4_doOrder_7 : decode cX4_doOrder 7 = .ok (.iload_n 1, 1) := by decide +kernel
theorem dX4_doOrder_8 : decode cX4_doOrder 8 = .ok (.iaload, 1) := by decide +kernel
theorem dX4_doOrder_9 : decode cX4_doOrder 9 = .ok (.tableswitch 135 0 3 #[31, 57, 83, 118], 31) := by decide +kernel
theorem dX4_doOrder_40 : decode cX4_doOrder 40 = .ok (.aload_n 0, 1) := by decide +kernel
theorem dX4_doOrder_41 : decode cX4_doOrder 41 = .ok (.aload_n 0, 1) := by decide +kernel
theorem dX4_doOrder_42 : decode cX4_doOrder 42 = .ok (.getfield 33, 3) := by decide +kernel
theorem dX4_doOrder_45 : decode cX4_doOrder 45 = .ok (.getfield 147, 3) := by decide +kernel
theorem dX4_doOrder_48 : decode cX4_doOrder 48 = .ok (.iload_n 1, 1) := by decide +kernel
theorem dX4_doOrder_49 : decode cX4_doOrder 49 = .ok (.iaload, 1) := by decide +kernel
theorem dX4_doOrder_50 : decode cX4_doOrder 50 = .ok (.aload_n 0, 1) := by decide +kernel
theorem dX4_doOrder_51 : decode cX4_doOrder 51 = .ok (.getfield 33, 3) := by decide +kernel
theorem dX4_doOrder_54 : decode cX4_doOrder 54 = .ok (.getfield 150, 3) := by decide +kernel
theorem dX4_doOrder_57 : decode cX4_doOrder 57 = .ok (.iload_n 1, 1) := by decide +kernel
theorem dX4_doOrder_58 : decode cX4_doOrder 58 = .ok (.iaload, 1) := by decide +kernel
theorem dX4_doOrder_59 : decode cX4_doOrder 59 = .ok (.invokevirtual 153, 3) := by decide +kernel
theorem dX4_doOrder_62 : decode cX4_doOrder 62 = .ok (.istore_n 2, 1) := by decide +kernel
theorem dX4_doOrder_63 : decode cX4_doOrder 63 = .ok (.goto 83, 3) := by decide +kernel
theorem dX4_doOrder_66 : decode cX4_doOrder 66 = .ok (.aload_n 0, 1) := by decide +kernel
theorem dX4_doOrder_67 : decode cX4_doOrder 67 = .ok (.aload_n 0, 1) := by decide +kernel
theorem dX4_doOrder_68 : decode cX4_doOrder 68 = .ok (.getfield 33, 3) := by decide +kernel
theorem dX4_doOrder_71 : decode cX4_doOrder 71 = .ok (.getfield 147, 3) := by decide +kernel
theorem dX4_doOrder_74 : decode cX4_doOrder 74 = .ok (.iload_n 1, 1) := by decide +kernel
theorem dX4_doOrder_75 : decode cX4_doOrder 75 = .ok (.iaload, 1) := by decide +kernel
theorem dX4_doOrder_76 : decode cX4_doOrder 76 = .ok (.aload_n 0, 1) := by decide +kernel
theorem dX4_doOrder_77 : decode cX4_doOrder 77 = .ok (.getfield 33, 3) := by decide +kernel
theorem dX4_doOrder_80 : decode cX4_doOrder 80 = .ok (.getfield 150, 3) := by decide +kernel
theorem dX4_doOrder_83 : decode cX4_doOrder 83 = .ok (.iload_n 1, 1) := by decide +kernel
theorem dX4_doOrder_84 : decode cX4_doOrder 84 = .ok (.iaload, 1) := by decide +kernel
theorem dX4_doOrder_85 : decode cX4_doOrder 85 = .ok (.invokevirtual 156, 3) := by decide +kernel
theorem dX4_doOrder_88 : decode cX4_doOrder 88 = .ok (.istore_n 2, 1) := by decide +kernel
theorem dX4_doOrder_89 : decode cX4_doOrder 89 = .ok (.goto 57, 3) := by decide +kernel
theorem dX4_doOrder_92 : decode cX4_doOrder 92 = .ok (.aload_n 0, 1) := by decide +kernel
theorem dX4_doOrder_93 : decode cX4_doOrder 93 = .ok (.aload_n 0, 1) := by decide +kernel
theorem dX4_doOrder_94 : decode cX4_doOrder 94 = .ok (.getfield 33, 3) := by decide +kernel
theorem dX4_doOrder_97 : decode cX4_doOrder 97 = .ok (.getfield 147, 3) := by decide +kernel
theorem dX4_doOrder_100 : decode cX4_doOrder 100 = .ok (.iload_n 1, 1) := by decide +kernel
theorem dX4_doOrder_101 : decode cX4_doOrder 101 = .ok (.iaload, 1) := by decide +kernel
theorem dX4_doOrder_102 : decode cX4_doOrder 102 = .ok (.aload_n 0, 1) := by decide +kernel
theorem dX4_doOrder_103 : decode cX4_doOrder 103 = .ok (.getfield 33, 3) := by decide +kernel
theorem dX4_doOrder_106 : decode cX4_doOrder 106 = .ok (.getfield 159, 3) := by decide +kernel
theorem dX4_doOrder_109 : decode cX4_doOrder 109 = .ok (.iload_n 1, 1) := by decide +kernel
theorem dX4_doOrder_110 : decode cX4_doOrder 110 = .ok (.iaload, 1) := by decide +kernel
theorem dX4_doOrder_111 : decode cX4_doOrder 111 = .ok (.aload_n 0, 1) := by decide +kernel
theorem dX4_doOrder_112 : decode cX4_doOrder 112 = .ok (.getfield 33, 3) := by decide +kernel
theorem dX4_doOrder_115 : decode cX4_doOrder 115 = .ok (.getfield 150, 3) := by decide +kernel
theorem dX4_doOrder_118 : decode cX4_doOrder 118 = .ok (.iload_n 1, 1) := by decide +kernel
theorem dX4_doOrder_119 : decode cX4_doOrder 119 = .ok (.iaload, 1) := by decide +kernel
theorem dX4_doOrder_120 : decode cX4_doOrder 120 = .ok (.invokevirtual 162, 3) := by decide +kernel
theorem dX4_doOrder_123 : decode cX4_doOrder 123 = .ok (.istore_n 2, 1) := by decide +kernel
theorem dX4_doOrder_124 : decode cX4_doOrder 124 = .ok (.goto 22, 3) := by decide +kernel
theorem dX4_doOrder_127 : decode cX4_doOrder 127 = .ok (.aload_n 0, 1) := by decide +kernel
theorem dX4_doOrder_128 : decode cX4_doOrder 128 = .ok (.aload_n 0, 1) := by decide +kernel
theorem dX4_doOrder_129 : decode cX4_doOrder 129 = .ok (.getfield 33, 3) := by decide +kernel
theorem dX4_doOrder_132 : decode cX4_doOrder 132 = .ok (.getfield 147, 3) := by decide +kernel
theorem dX4_doOrder_135 : decode cX4_doOrder 135 = .ok (.iload_n 1, 1) := by decide +kernel
theorem dX4_doOrder_136 : decode cX4_doOrder 136 = .ok (.iaload, 1) := by decide +kernel
theorem dX4_doOrder_137 : decode cX4_doOrder 137 = .ok (.invokevirtual 166, 3) := by decide +kernel
theorem dX4_doOrder_140 : decode cX4_doOrder 140 = .ok (.istore_n 2, 1) := by decide +kernel
theorem dX4_doOrder_141 : decode cX4_doOrder 141 = .ok (.goto 5, 3) := by decide +kernel
theorem dX4_doOrder_144 : decode cX4_doOrder 144 = .ok (.iconst 0, 1) := by decide +kernel
theorem dX4_doOrder_145 : decode cX4_doOrder 145 = .ok (.ireturn, 1) := by decide +kernel
theorem dX4_doOrder_146 : decode cX4_doOrder 146 = .ok (.iload_n 2, 1) := by decide +kernel
theorem dX4_doOrder_147 : decode cX4_doOrder 147 = .ok (.bipush (-6), 2) := by decide +kernel
theorem dX4_doOrder_149 : decode cX4_doOrder 149 = .ok (.if_icmp .eq 13, 3) := by decide +kernel
theorem dX4_doOrder_152 : decode cX4_doOrder 152 = .ok (.iload_n 2, 1) := by decide +kernel
theorem dX4_doOrder_153 : decode cX4_doOrder 153 = .ok (.bipush (-7), 2) := by decide +kernel
theorem dX4_doOrder_155 : decode cX4_doOrder 155 = .ok (.if_icmp .eq 7, 3) := by decide +kernel
theorem dX4_doOrder_158 : decode cX4_doOrder 158 = .ok (.iconst 1, 1) := by decide +kernel
theorem dX4_doOrder_159 : decode cX4_doOrder 159 = .ok (.goto 4, 3) := by decide +kernel
theorem dX4_doOrder_162 : decode cX4_doOrder 162 = .ok (.iconst 0, 1) := by decide +kernel
theorem dX4_doOrder_163 : decode cX4_doOrder 163 = .ok (.ireturn, 1) := by decide +kernel
theorem dX4_isWithin_0 : decode cX4_isWithin 0 = .ok (.iload_n 0, 1) := by decide +kernel
theorem dX4_isWithin_1 : decode cX4_isWithin 1 = .ok (.iload_n 1, 1) := by decide +kernel
theorem dX4_isWithin_2 : decode cX4_isWithin 2 = .ok (.if_icmp .lt 12, 3) := by decide +kernel
theorem dX4_isWithin_5 : decode cX4_isWithin 5 = .ok (.iload_n 0, 1) := by decide +kernel
theorem dX4_isWithin_6 : decode cX4_isWithin 6 = .ok (.iload_n 2, 1) := by decide +kernel
theorem dX4_isWithin_7 : decode cX4_isWithin 7 = .ok (.if_icmp .gt 7, 3) := by decide +kernel
theorem dX4_isWithin_10 : decode cX4_isWithin 10 = .ok (.iconst 1, 1) := by decide +kernel
theorem dX4_isWithin_11 : decode cX4_isWithin 11 = .ok (.goto 4, 3) := by decide +kernel
theorem dX4_isWithin_14 : decode cX4_isWithin 14 = .ok (.iconst 0, 1) := by decide +kernel
theorem dX4_isWithin_15 : decode cX4_isWithin 15 = .ok (.ireturn, 1) := by decide +kernel
theorem dX4_isAmount_0 : decode cX4_isAmount 0 = .ok (.iload_n 0, 1) := by decide +kernel
theorem dX4_isAmount_1 : decode cX4_isAmount 1 = .ok (.iconst 0, 1) := by decide +kernel
theorem dX4_isAmount_2 : decode cX4_isAmount 2 = .ok (.ldc 56, 2) := by decide +kernel
theorem dX4_isAmount_4 : decode cX4_isAmount 4 = .ok (.invokestatic 48, 3) := by decide +kernel
theorem dX4_isAmount_7 : decode cX4_isAmount 7 = .ok (.ireturn, 1) := by decide +kernel
theorem dX4_hasRow_0 : decode cX4_hasRow 0 = .ok (.aload_n 0, 1) := by decide +kernel
theorem dX4_hasRow_1 : decode cX4_hasRow 1 = .ok (.getfield 19, 3) := by decide +kernel
theorem dX4_hasRow_4 : decode cX4_hasRow 4 = .ok (.iload_n 1, 1) := by decide +kernel
theorem dX4_hasRow_5 : decode cX4_hasRow 5 = .ok (.invokevirtual 75, 3) := by decide +kernel
theorem dX4_hasRow_8 : decode cX4_hasRow 8 = .ok (.ifCond .eq 30, 3) := by decide +kernel
theorem dX4_hasRow_11 : decode cX4_hasRow 11 = .ok (.iload_n 2, 1) := by decide +kernel
theorem dX4_hasRow_12 : decode cX4_hasRow 12 = .ok (.iconst 1, 1) := by decide +kernel
theorem dX4_hasRow_13 : decode cX4_hasRow 13 = .ok (.bipush 12, 2) := by decide +kernel
theorem dX4_hasRow_15 : decode cX4_hasRow 15 = .ok (.invokestatic 48, 3) := by decide +kernel
theorem dX4_hasRow_18 : decode cX4_hasRow 18 = .ok (.ifCond .eq 20, 3) := by decide +kernel
theorem dX4_hasRow_21 : decode cX4_hasRow 21 = .ok (.iload_n 1, 1) := by decide +kernel
theorem dX4_hasRow_22 : decode cX4_hasRow 22 = .ok (.iload_n 2, 1) := by decide +kernel
theorem dX4_hasRow_23 : decode cX4_hasRow 23 = .ok (.iadd, 1) := by decide +kernel
theorem dX4_hasRow_24 : decode cX4_hasRow 24 = .ok (.aload_n 0, 1) := by decide +kernel
theorem dX4_hasRow_25 : decode cX4_hasRow 25 = .ok (.getfield 19, 3) := by decide +kernel
theorem dX4_hasRow_28 : decode cX4_hasRow 28 = .ok (.getfield 169, 3) := by decide +kernel
theorem dX4_hasRow_31 : decode cX4_hasRow 31 = .ok (.if_icmp .gt 7, 3) := by decide +kernel
theorem dX4_hasRow_34 : decode cX4_hasRow 34 = .ok (.iconst 1, 1) := by decide +kernel
theorem dX4_hasRow_35 : decode cX4_hasRow 35 = .ok (.goto 4, 3) := by decide +kernel
theorem dX4_hasRow_38 : decode cX4_hasRow 38 = .ok (.iconst 0, 1) := by decide +kernel
theorem dX4_hasRow_39 : decode cX4_hasRow 39 = .ok (.ireturn, 1) := by decide +kernel
end
section
theorem dX5_init_0 : decode cX5_init 0 = .ok (.aload_n 0, 1) := by decide +kernel
theorem dX5_init_1 : decode cX5_init 1 = .ok (.invokespecial 1, 3) := by decide +kernel
theorem dX5_init_4 : decode cX5_init 4 = .ok (.aload_n 0, 1) := by decide +kernel
theorem dX5_init_5 : decode cX5_init 5 = .ok (.bipush 40, 2) := by decide +kernel
theorem dX5_init_7 : decode cX5_init 7 = .ok (.newarray .int, 2) := by decide +kernel
theorem dX5_init_9 : decode cX5_init 9 = .ok (.putfield 7, 3) := by decide +kernel
theorem dX5_init_12 : decode cX5_init 12 = .ok (.aload_n 0, 1) := by decide +kernel
theorem dX5_init_13 : decode cX5_init 13 = .ok (.bipush 40, 2) := by decide +kernel
theorem dX5_init_15 : decode cX5_init 15 = .ok (.newarray .int, 2) := by decide +kernel
theorem dX5_init_17 : decode cX5_init 17 = .ok (.putfield 13, 3) := by decide +kernel
theorem dX5_init_20 : decode cX5_init 20 = .ok (.aload_n 0, 1) := by decide +kernel
theorem dX5_init_21 : decode cX5_init 21 = .ok (.bipush 40, 2) := by decide +kernel
theorem dX5_init_23 : decode cX5_init 23 = .ok (.newarray .int, 2) := by decide +kernel
theorem dX5_init_25 : decode cX5_init 25 = .ok (.putfield 16, 3) := by decide +kernel
theorem dX5_init_28 : decode cX5_init 28 = .ok (.aload_n 0, 1) := by decide +kernel
theorem dX5_init_29 : decode cX5_init 29 = .ok (.bipush 40, 2) := by decide +kernel
theorem dX5_init_31 : decode cX5_init 31 = .ok (.newarray .int, 2) := by decide +kernel
theorem dX5_init_33 : decode cX5_init 33 = .ok (.putfield 19, 3) := by decide +kernel
theorem dX5_init_36 : decode cX5_init 36 = .ok (.aload_n 0, 1) := by decide +kernel
theorem dX5_init_37 : decode cX5_init 37 = .ok (.bipush 12, 2) := by decide +kernel
theorem dX5_init_39 : decode cX5_init 39 = .ok (.newarray .int, 2) := by decide +kernel
theorem dX5_init_41 : decode cX5_init 41 = .ok (.putfield 22, 3) := by decide +kernel
theorem dX5_init_44 : decode cX5_init 44 = .ok (.aload_n 0, 1) := by decide +kernel
theorem dX5_init_45 : decode cX5_init 45 = .ok (.bipush 12, 2) := by decide +kernel
theorem dX5_init_47 : decode cX5_init 47 = .ok (.newarray .int, 2) := by decide +kernel
theorem dX5_init_49 : decode cX5_init 49 = .ok (.putfield 25, 3) := by decide +kernel
theorem dX5_init_52 : decode cX5_init 52 = .ok (.aload_n 0, 1) := by decide +kernel
theorem dX5_init_53 : decode cX5_init 53 = .ok (.bipush 12, 2) := by decide +kernel
theorem dX5_init_55 : decode cX5_init 55 = .ok (.newarray .int, 2) := by decide +kernel
theorem dX5_init_57 : decode cX5_init 57 = .ok (.putfield 28, 3) := by decide +kernel
theorem dX5_init_60 : decode cX5_init 60 = .ok (.aload_n 0, 1) := by decide +kernel
theorem dX5_init_61 : decode cX5_init 61 = .ok (.bipush 24, 2) := by decide +kernel
theorem dX5_init_63 : decode cX5_init 63 = .ok (.newarray .int, 2) := by decide +kernel
theorem dX5_init_65 : decode cX5_init 65 = .ok (.putfield 31, 3) := by decide +kernel
theorem dX5_init_68 : decode cX5_init 68 = .ok (.aload_n 0, 1) := by decide +kernel
theorem dX5_init_69 : decode cX5_init 69 = .ok (.bipush 64, 2) := by decide +kernel
theorem dX5_init_71 : decode cX5_init 71 = .ok (.newarray .int, 2) := by decide +kernel
theorem dX5_init_73 : decode cX5_init 73 = .ok (.putfield 34, 3) := by decide +kernel
theorem dX5_init_76 : decode cX5_init 76 = .ok (.aload_n 0, 1) := by decide +kernel
theorem dX5_init_77 : decode cX5_init 77 = .ok (.sipush 400, 3) := by decide +kernel
theorem dX5_init_80 : decode cX5_init 80 = .ok (.newarray .int, 2) := by decide +kernel
theorem dX5_init_82 : decode cX5_init 82 = .ok (.putfield 37, 3) := by decide +kernel
theorem dX5_init_85 : decode cX5_init 85 = .ok (.aload_n 0, 1) := by decide +kernel
theorem dX5_init_86 : decode cX5_init 86 = .ok (.bipush 32, 2) := by decide +kernel
theorem dX5_init_88 : decode cX5_init 88 = .ok (.newarray .int, 2) := by decide +kernel
theorem dX5_init_90 : decode cX5_init 90 = .ok (.putfield 40, 3) := by decide +kernel
theorem dX5_init_93 : decode cX5_init 93 = .ok (.aload_n 0, 1) := by decide +kernel
theorem dX5_init_94 : decode cX5_init 94 = .ok (.bipush 32, 2) := by decide +kernel
theorem dX5_init_96 : decode cX5_init 96 = .ok (.newarray .int, 2) := by decide +kernel
theorem dX5_init_98 : decode cX5_init 98 = .ok (.putfield 43, 3) := by decide +kernel
theorem dX5_init_101 : decode cX5_init 101 = .ok (.aload_n 0, 1) := by decide +kernel
theorem dX5_init_102 : decode cX5_init 102 = .ok (.bipush 32, 2) := by decide +kernel
theorem dX5_init_104 : decode cX5_init 104 = .ok (.newarray .int, 2) := by decide +kernel
theorem dX5_init_106 : decode cX5_init 106 = .ok (.putfield 46, 3) := by decide +kernel
theorem dX5_init_109 : decode cX5_init 109 = .ok (.aload_n 0, 1) := by decide +kernel
theorem dX5_init_110 : decode cX5_init 110 = .ok (.bipush 32, 2) := by decide +kernel
theorem dX5_init_112 : decode cX5_init 112 = .ok (.newarray .int, 2) := by decide +kernel
theorem dX5_init_114 : decode cX5_init 114 = .ok (.putfield 49, 3) := by decide +kernel
theorem dX5_init_117 : decode cX5_init 117 = .ok (.return_, 1) := by decide +kernel
theorem dX5_isKey_0 : decode cX5_isKey 0 = .ok (.iload_n 1, 1) := by decide +kernel
theorem dX5_isKey_1 : decode cX5_isKey 1 = .ok (.ifCond .lt 15, 3) := by decide +kernel
theorem dX5_isKey_4 : decode cX5_isKey 4 = .ok (.iload_n 1, 1) := by decide +kernel
theorem dX5_isKey_5 : decode cX5_isKey 5 = .ok (.aload_n 0, 1) := by decide +kernel
theorem dX5_isKey_6 : decode cX5_isKey 6 = .ok (.getfield 52, 3) := by decide +kernel
theorem dX5_isKey_9 : decode cX5_isKey 9 = .ok (.if_icmp .ge 7, 3) := by decide +kernel
theorem dX5_isKey_12 : decode cX5_isKey 12 = .ok (.iconst 1, 1) := by decide +kernel
theorem dX5_isKey_13 : decode cX5_isKey 13 = .ok (.goto 4, 3) := by decide +kernel
theorem dX5_isKey_16 : decode cX5_isKey 16 = .ok (.iconst 0, 1) := by decide +kernel
theorem dX5_isKey_17 : decode cX5_isKey 17 = .ok (.ireturn, 1) := by decide +kernel
theorem dX5_isVault_0 : decode cX5_isVault 0 = .ok (.iload_n 1, 1) := by decide +kernel
theorem dX5_isVault_1 : decode cX5_isVault 1 = .ok (.ifCond .lt 15, 3) := by decide +kernel
theorem dX5_isVault_4 : decode cX5_isVault 4 = .ok (.iload_n 1, 1) := by decide +kernel
theorem dX5_isVault_5 : decode cX5_isVault 5 = .ok (.aload_n 0, 1) := by decide +kernel
theorem dX5_isVault_6 : decode cX5_isVault 6 = .ok (.getfield 56, 3) := by decide +kernel
theorem dX5_isVault_9 : decode cX5_isVault 9 = .ok (.if_icmp .ge 7, 3) := by decide +kernel
theorem dX5_isVault_12 : decode cX5_isVault 12 = .ok (.iconst 1, 1) := by decide +kernel
theorem dX5_isVault_13 : decode cX5_isVault 13 = .ok (.goto 4, 3) := by decide +kernel
theorem dX5_isVault_16 : decode cX5_isVault 16 = .ok (.iconst 0, 1) := by decide +kernel
theorem dX5_isVault_17 : decode cX5_isVault 17 = .ok (.ireturn, 1) := by decide +kernel
theorem dX5_isAmount_0 : decode cX5_isAmount 0 = .ok (.iload_n 0, 1) := by decide +kernel
theorem dX5_isAmount_1 : decode cX5_isAmount 1 = .ok (.ifCond .lt 13, 3) := by decide +kernel
theorem dX5_isAmount_4 : decode cX5_isAmount 4 = .ok (.iload_n 0, 1) := by decide +kernel
theorem dX5_isAmount_5 : decode cX5_isAmount 5 = .ok (.ldc 59, 2) := by decide +kernel
theorem dX5_isAmount_7 : decode cX5_isAmount 7 = .ok (.if_icmp .gt 7, 3) := by decide +kernel
theorem dX5_isAmount_10 : decode cX5_isAmount 10 = .ok (.iconst 1, 1) := by decide +kernel
theorem dX5_isAmount_11 : decode cX5_isAmount 11 = .ok (.goto 4, 3) := by decide +kernel
theorem dX5_isAmount_14 : decode cX5_isAmount 14 = .ok (.iconst 0, 1) := by decide +kernel
theorem dX5_isAmount_15 : decode cX5_isAmount 15 = .ok (.ireturn, 1) := by decide +kernel
theorem dX5_isHand_0 : decode cX5_isHand 0 = .ok (.iload_n 0, 1) := by decide +kernel
theorem dX5_isHand_1 : decode cX5_isHand 1 = .ok (.ifCond .eq 8, 3) := by decide +kernel
theorem dX5_isHand_4 : decode cX5_isHand 4 = .ok (.iload_n 0, 1) := by decide +kernel
theorem dX5_isHand_5 : decode cX5_isHand 5 = .ok (.iconst 1, 1) := by decide +kernel
theorem dX5_isHand_6 : decode cX5_isHand 6 = .ok (.if_icmp .ne 7, 3) := by decide +kernel
theorem dX5_isHand_9 : decode cX5_isHand 9 = .ok (.iconst 1, 1) := by decide +kernel
theorem dX5_isHand_10 : decode cX5_isHand 10 = .ok (.goto 4, 3) := by decide +kernel
theorem dX5_isHand_13 : decode cX5_isHand 13 = .ok (.iconst 0, 1) := by decide +kernel
theorem dX5_isHand_14 : decode cX5_isHand 14 = .ok (.ireturn, 1) := by decide +kernel
theorem dX5_enter_0 : decode cX5_enter 0 = .ok (.aload_n 0, 1) := by decide +kernel
theorem dX5_enter_1 : decode cX5_enter 1 = .ok (.getfield 60, 3) := by decide +kernel
theorem dX5_enter_4 : decode cX5_enter 4 = .ok (.sipush 400, 3) := by decide +kernel
theorem dX5_enter_7 : decode cX5_enter 7 = .ok (.if_icmp .ge 13, 3) := by decide +kernel
theorem dX5_enter_10 : decode cX5_enter 10 = .ok (.aload_n 0, 1) := by decide +kernel
theorem dX5_enter_11 : decode cX5_enter 11 = .ok (.getfield 37, 3) := by decide +kernel
theorem dX5_enter_14 : decode cX5_enter 14 = .ok (.aload_n 0, 1) := by decide +kernel
theorem dX5_enter_15 : decode cX5_enter 15 = .ok (.getfield 60, 3) := by decide +kernel
theorem dX5_enter_18 : decode cX5_enter 18 = .ok (.iload_n 1, 1) := by decide +kernel
theorem dX5_enter_19 : decode cX5_enter 19 = .ok (.iastore, 1) := by decide +kernel
theorem dX5_enter_20 : decode cX5_enter 20 = .ok (.aload_n 0, 1) := by decide +kernel
theorem dX5_enter_21 : decode cX5_enter 21 = .ok (.dup, 1) := by decide +kernel
theorem dX5_enter_22 : decode cX5_enter 22 = .ok (.getfield 60, 3) := by decide +kernel
theorem dX5_enter_25 : decode cX5_enter 25 = .ok (.iconst 1, 1) := by decide +kernel
theorem dX5_enter_26 : decode cX5_enter 26 = .ok (.iadd, 1) := by decide +kernel
theorem dX5_enter_27 : decode cX5_enter 27 = .ok (.putfield 60, 3) := by decide +kernel
theorem dX5_enter_30 : decode cX5_enter 30 = .ok (.return_, 1) := by decide +kernel
theorem dX5_key_0 : decode cX5_key 0 = .ok (.iload_n 1, 1) := by decide +kernel
theorem dX5_key_1 : decode cX5_key 1 = .ok (.iconst 1, 1) := by decide +kernel
theorem dX5_key_2 : decode cX5_key 2 = .ok (.if_icmp .lt 9, 3) := by decide +kernel
theorem dX5_key_5 : decode cX5_key 5 = .ok (.iload_n 1, 1) := by decide +kernel
theorem dX5_key_6 : decode cX5_key 6 = .ok (.bipush 9, 2) := by decide +kernel
theorem dX5_key_8 : decode cX5_key 8 = .ok (.if_icmp .le 6, 3) := by decide +kernel
theorem dX5_key_11 : decode cX5_key 11 = .ok (.bipush (-2), 2) := by decide +kernel
theorem dX5_key_13 : decode cX5_key 13 = .ok (.ireturn, 1) := by decide +kernel
theorem dX5_key_14 : decode cX5_key 14 = .ok (.aload_n 0, 1) := by decide +kernel
theorem dX5_key_15 : decode cX5_key 15 = .ok (.getfield 52, 3) := by decide +kernel
theorem dX5_key_18 : decode cX5_key 18 = .ok (.bipush 40, 2) := by decide +kernel
theorem dX5_key_20 : decode cX5_key 20 = .ok (.if_icmp .ne 6, 3) := by decide +kernel
theorem dX5_key_23 : decode cX5_key 23 = .ok (.bipush (-3), 2) := by decide +kernel
theorem dX5_key_25 : decode cX5_key 25 = .ok (.ireturn, 1) := by decide +kernel
theorem dX5_key_26 : decode cX5_key 26 = .ok (.aload_n 0, 1) := by decide +kernel
theorem dX5_key_27 : decode cX5_key 27 = .ok (.getfield 7, 3) := by decide +kernel
theorem dX5_key_30 : decode cX5_key 30 = .ok (.aload_n 0, 1) := by decide +kernel
theorem dX5_key_31 : decode cX5_key 31 = .ok (.getfield 52, 3) := by decide +kernel
theorem dX5_key_34 : decode cX5_key 34 = .ok (.iload_n 1, 1) := by decide +kernel
theorem dX5_key_35 : decode cX5_key 35 = .ok (.iastore, 1) := by decide +kernel
theorem dX5_key_36 : decode cX5_key 36 = .ok (.aload_n 0, 1) := by decide +kernel
theorem dX5_key_37 : decode cX5_key 37 = .ok (.getfield 13, 3) := by decide +kernel
theorem dX5_key_40 : decode cX5_key 40 = .ok (.aload_n 0, 1) := by decide +kernel
theorem dX5_key_41 : decode cX5_key 41 = .ok (.getfield 52, 3) := by decide +kernel
theorem dX5_key_44 : decode cX5_key 44 = .ok (.iload_n 2, 1) := by decide +kernel
theorem dX5_key_45 : decode cX5_key 45 = .ok (.ifCond .eq 7, 3) := by decide +kernel
theorem dX5_key_48 : decode cX5_key 48 = .ok (.iconst 2, 1) := by decide +kernel
theorem dX5_key_49 : decode cX5_key 49 = .ok (.goto 4, 3) := by decide +kernel
theorem dX5_key_52 : decode cX5_key 52 = .ok (.iconst 1, 1) := by decide +kernel
theorem dX5_key_53 : decode cX5_key 53 = .ok (.iastore, 1) := by decide +kernel
theorem dX5_key_54 : decode cX5_key 54 = .ok (.aload_n 0, 1) := by decide +kernel
theorem dX5_key_55 : decode cX5_key 55 = .ok (.getfield 16, 3) := by decide +kernel
theorem dX5_key_58 : decode cX5_key 58 = .ok (.aload_n 0, 1) := by decide +kernel
theorem dX5_key_59 : decode cX5_key 59 = .ok (.getfield 52, 3) := by decide +kernel
theorem dX5_key_62 : decode cX5_key 62 = .ok (.iconst 0, 1) := by decide +kernel
theorem dX5_key_63 : decode cX5_key 63 = .ok (.iastore, 1) := by decide +kernel
theorem dX5_key_64 : decode cX5_key 64 = .ok (.aload_n 0, 1) := by decide +kernel
theorem dX5_key_65 : decode cX5_key 65 = .ok (.getfield 19, 3) := by decide +kernel
theorem dX5_key_68 : decode cX5_key 68 = .ok (.aload_n 0, 1) := by decide +kernel
theorem dX5_key_69 : decode cX5_key 69 = .ok (.getfield 52, 3) := by decide +kernel
theorem dX5_key_72 : decode cX5_key 72 = .ok (.iconst 0, 1) := by decide +kernel
theorem dX5_key_73 : decode cX5_key 73 = .ok (.iastore, 1) := by decide +kernel
theorem dX5_key_74 : decode cX5_key 74 = .ok (.aload_n 0, 1) := by decide +kernel
theorem dX5_key_75 : decode cX5_key 75 = .ok (.dup, 1) := by decide +kernel
theorem dX5_key_76 : decode cX5_key 76 = .ok (.getfield 52, 3) := by decide +kernel
theorem dX5_key_79 : decode cX5_key 79 = .ok (.iconst 1, 1) := by decide +kernel
theorem dX5_key_80 : decode cX5_key 80 = .ok (.iadd, 1) := by decide +kernel
theorem dX5_key_81 : decode cX5_key 81 = .ok (.putfield 52, 3) := by decide +kernel
theorem dX5_key_84 : decode cX5_key 84 = .ok (.aload_n 0, 1) := by decide +kernel
theorem dX5_key_85 : decode cX5_key 85 = .ok (.getfield 52, 3) := by decide +kernel
theorem dX5_key_88 : decode cX5_key 88 = .ok (.iconst 1, 1) := by decide +kernel
theorem dX5_key_89 : decode cX5_key 89 = .ok (.isub, 1) := by decide +kernel
theorem dX5_key_90 : decode cX5_key 90 = .ok (.ireturn, 1) := by decide +kernel
theorem dX5_vault_0 : decode cX5_vault 0 = .ok (.iload_n 1, 1) := by decide +kernel
theorem dX5_vault_1 : decode cX5_vault 1 = .ok (.invokestatic 63, 3) := by decide +kernel
theorem dX5_vault_4 : decode cX5_vault 4 = .ok (.ifCond .ne 6, 3) := by decide +kernel
theorem dX5_vault_7 : decode cX5_vault 7 = .ok (.bipush (-2), 2) := by decide +kernel
theorem dX5_vault_9 : decode cX5_vault 9 = .ok (.ireturn, 1) := by decide +kernel
theorem dX5_vault_10 : decode cX5_vault 10 = .ok (.aload_n 0, 1) := by decide +kernel
theorem dX5_vault_11 : decode cX5_vault 11 = .ok (.getfield 56, 3) := by decide +kernel
theorem dX5_vault_14 : decode cX5_vault 14 = .ok (.bipush 12, 2) := by decide +kernel
theorem dX5_vault_16 : decode cX5_vault 16 = .ok (.if_icmp .ne 6, 3) := by decide +kernel
theorem dX5_vault_19 : decode cX5_vault 19 = .ok (.bipush (-3), 2) := by decide +kernel
theorem dX5_vault_21 : decode cX5_vault 21 = .ok (.ireturn, 1) := by decide +kernel
theorem dX5_vault_22 : decode cX5_vault 22 = .ok (.aload_n 0, 1) := by decide +kernel
theorem dX5_vault_23 : decode cX5_vault 23 = .ok (.getfield 22, 3) := by decide +kernel
theorem dX5_vault_26 : decode cX5_vault 26 = .ok (.aload_n 0, 1) := by decide +kernel
theorem dX5_vault_27 : decode cX5_vault 27 = .ok (.getfield 56, 3) := by decide +kernel
theorem dX5_vault_30 : decode cX5_vault 30 = .ok (.iconst 0, 1) := by decide +kernel
theorem dX5_vault_31 : decode cX5_vault 31 = .ok (.iastore, 1) := by decide +kernel
theorem dX5_vault_32 : decode cX5_vault 32 = .ok (.aload_n 0, 1) := by decide +kernel
theorem dX5_vault_33 : decode cX5_vault 33 = .ok (.getfield 25, 3) := by decide +kernel
theorem dX5_vault_36 : decode cX5_vault 36 = .ok (.aload_n 0, 1) := by decide +kernel
theorem dX5_vault_37 : decode cX5_vault 37 = .ok (.getfield 56, 3) := by decide +kernel
theorem dX5_vault_40 : decode cX5_vault 40 = .ok (.iload_n 1, 1) := by decide +kernel
theorem dX5_vault_41 : decode cX5_vault 41 = .ok (.iastore, 1) := by decide +kernel
theorem dX5_vault_42 : decode cX5_vault 42 = .ok (.aload_n 0, 1) := by decide +kernel
theorem dX5_vault_43 : decode cX5_vault 43 = .ok (.getfield 28, 3) := by decide +kernel
theorem dX5_vault_46 : decode cX5_vault 46 = .ok (.aload_n 0, 1) := by decide +kernel
theorem dX5_vault_47 : decode cX5_vault 47 = .ok (.getfield 56, 3) := by decide +kernel
theorem dX5_vault_50 : decode cX5_vault 50 = .ok (.iconst (-1), 1) := by decide +kernel
theorem dX5_vault_51 : decode cX5_vault 51 = .ok (.iastore, 1) := by decide +kernel
theorem dX5_vault_52 : decode cX5_vault 52 = .ok (.aload_n 0, 1) := by decide +kernel
theorem dX5_vault_53 : decode cX5_vault 53 = .ok (.getfield 31, 3) := by decide +kernel
theorem dX5_vault_56 : decode cX5_vault 56 = .ok (.iconst 2, 1) := by decide +kernel
theorem dX5_vault_57 : decode cX5_vault 57 = .ok (.aload_n 0, 1) := by decide +kernel
theorem dX5_vault_58 : decode cX5_vault 58 = .ok (.getfield 56, 3) := by decide +kernel
theorem dX5_vault_61 : decode cX5_vault 61 = .ok (.imul, 1) := by decide +kernel
theorem dX5_vault_62 : decode cX5_vault 62 = .ok (.iconst (-1), 1) := by decide +kernel
theorem dX5_vault_63 : decode cX5_vault 63 = .ok (.iastore, 1) := by decide +kernel
theorem dX5_vault_64 : decode cX5_vault 64 = .ok (.aload_n 0, 1) := by decide +kernel
theorem dX5_vault_65 : decode cX5_vault 65 = .ok (.getfield 31, 3) := by decide +kernel
theorem dX5_vault_68 : decode cX5_vault 68 = .ok (.iconst 2, 1) := by decide +kernel
theorem dX5_vault_69 : decode cX5_vault 69 = .ok (.aload_n 0, 1) := by decide +kernel
theorem dX5_vault_70 : decode cX5_vault 70 = .ok (.getfield 56, 3) := by decide +kernel
theorem dX5_vault_73 : decode cX5_vault 73 = .ok (.imul, 1) := by decide +kernel
theorem dX5_vault_74 : decode cX5_vault 74 = .ok (.iconst 1, 1) := by decide +kernel
theorem dX5_vault_75 : decode cX5_vault 75 = .ok (.iadd, 1) := by decide +kernel
theorem dX5_vault_76 : decode cX5_vault 76 = .ok (.iconst (-1), 1) := by decide +kernel
theorem dX5_vault_77 : decode cX5_vault 77 = .ok (.iastore, 1) := by decide +kernel
theorem dX5_vault_78 : decode cX5_vault 78 = .ok (.aload_n 0, 1) := by decide +kernel
theorem dX5_vault_79 : decode cX5_vault 79 = .ok (.dup, 1) := by decide +kernel
theorem dX5_vault_80 : decode cX5_vault 80 = .ok (.getfield 56, 3) := by decide +kernel
theorem dX5_vault_83 : decode cX5_vault 83 = .ok (.iconst 1, 1) := by decide +kernel
theorem dX5_vault_84 : decode cX5_vault 84 = .ok (.iadd, 1) := by decide +kernel
theorem dX5_vault_85 : decode cX5_vault 85 = .ok (.putfield 56, 3) := by decide +kernel
theorem dX5_vault_88 : decode cX5_vault 88 = .ok (.aload_n 0, 1) := by decide +kernel
theorem dX5_vault_89 : decode cX5_vault 89 = .ok (.getfield 56, 3) := by decide +kernel
theorem dX5_vault_92 : decode cX5_vault 92 = .ok (.iconst 1, 1) := by decide +kernel
theorem dX5_vault_93 : decode cX5_vault 93 = .ok (.isub, 1) := by decide +kernel
theorem dX5_vault_94 : decode cX5_vault 94 = .ok (.ireturn, 1) := by decide +kernel
theorem dX5_hang_0 : decode cX5_hang 0 = .ok (.aload_n 0, 1) := by decide +kernel
theorem dX5_hang_1 : decode cX5_hang 1 = .ok (.iload_n 1, 1) := by decide +kernel
theorem dX5_hang_2 : decode cX5_hang 2 = .ok (.invokevirtual 67, 3) := by decide +kernel
theorem dX5_hang_5 : decode cX5_hang 5 = .ok (.ifCond .eq 23, 3) := by decide +kernel
theorem dX5_hang_8 : decode cX5_hang 8 = .ok (.iload_n 2, 1) := by decide +kernel
theorem dX5_hang_9 : decode cX5_hang 9 = .ok (.invokestatic 70, 3) := by decide +kernel
theorem dX5_hang_12 : decode cX5_hang 12 = .ok (.ifCond .eq 16, 3) := by decide +kernel
theorem dX5_hang_15 : decode cX5_hang 15 = .ok (.iload_n 3, 1) := by decide +kernel
theorem dX5_hang_16 : decode cX5_hang 16 = .ok (.iconst (-1), 1) := by decide +kernel
theorem dX5_hang_17 : decode cX5_hang 17 = .ok (.if_icmp .eq 14, 3) := by decide +kernel
theorem dX5_hang_20 : decode cX5_hang 20 = .ok (.aload_n 0, 1) := by decide +kernel
theorem dX5_hang_21 : decode cX5_hang 21 = .ok (.iload_n 3, 1) := by decide +kernel
theorem dX5_hang_22 : decode cX5_hang 22 = .ok (.invokevirtual 73, 3) := by decide +kernel
theorem dX5_hang_25 : decode cX5_hang 25 = .ok (.ifCond .ne 6, 3) := by decide +kernel
theorem dX5_hang_28 : decode cX5_hang 28 = .ok (.bipush (-2), 2) := by decide +kernel
theorem dX5_hang_30 : decode cX5_hang 30 = .ok (.ireturn, 1) := by decide +kernel
theorem dX5_hang_31 : decode cX5_hang 31 = .ok (.aload_n 0, 1) := by decide +kernel
theorem dX5_hang_32 : decode cX5_hang 32 = .ok (.getfield 31, 3) := by decide +kernel
theorem dX5_hang_35 : decode cX5_hang 35 = .ok (.iconst 2, 1) := by decide +kernel
theorem dX5_hang_36 : decode cX5_hang 36 = .ok (.iload_n 1, 1) := by decide +kernel
theorem dX5_hang_37 : decode cX5_hang 37 = .ok (.imul, 1) := by decide +kernel
theorem dX5_hang_38 : decode cX5_hang 38 = .ok (.iload_n 2, 1) := by decide +kernel
theorem dX5_hang_39 : decode cX5_hang 39 = .ok (.iadd, 1) := by decide +kernel
theorem dX5_hang_40 : decode cX5_hang 40 = .ok (.iaload, 1) := by decide +kernel
theorem dX5_hang_41 : decode cX5_hang 41 = .ok (.istore 4, 2) := by decide +kernel
theorem dX5_hang_43 : decode cX5_hang 43 = .ok (.aload_n 0, 1) := by decide +kernel
theorem dX5_hang_44 : decode cX5_hang 44 = .ok (.getfield 31, 3) := by decide +kernel
theorem dX5_hang_47 : decode cX5_hang 47 = .ok (.iconst 2, 1) := by decide +kernel
theorem dX5_hang_48 : decode cX5_hang 48 = .ok (.iload_n 1, 1) := by decide +kernel
theorem dX5_hang_49 : decode cX5_hang 49 = .ok (.imul, 1) := by decide +kernel
theorem dX5_hang_50 : decode cX5_hang 50 = .ok (.iload_n 2, 1) := by decide +kernel
theorem dX5_hang_51 : decode cX5_hang 51 = .ok (.iadd, 1) := by decide +kernel
theorem dX5_hang_52 : decode cX5_hang 52 = .ok (.iload_n 3, 1) := by decide +kernel
theorem dX5_hang_53 : decode cX5_hang 53 = .ok (.iastore, 1) := by decide +kernel
theorem dX5_hang_54 : decode cX5_hang 54 = .ok (.iload 4, 2) := by decide +kernel
theorem dX5_hang_56 : decode cX5_hang 56 = .ok (.ireturn, 1) := by decide +kernel
theorem dX5_link_0 : decode cX5_link 0 = .ok (.aload_n 0, 1) := by decide +kernel
theorem dX5_link_1 : decode cX5_link 1 = .ok (.iload_n 1, 1) := by decide +kernel
theorem dX5_link_2 : decode cX5_link 2 = .ok (.invokevirtual 67, 3) := by decide +kernel
theorem dX5_link_5 : decode cX5_link 5 = .ok (.ifCond .eq 16, 3) := by decide +kernel
theorem dX5_link_8 : decode cX5_link 8 = .ok (.iload_n 2, 1) := by decide +kernel
theorem dX5_link_9 : decode cX5_link 9 = .ok (.iconst (-1), 1) := by decide +kernel
theorem dX5_link_10 : decode cX5_link 10 = .ok (.if_icmp .eq 14, 3) := by decide +kernel
theorem dX5_link_13 : decode cX5_link 13 = .ok (.aload_n 0, 1) := by decide +kernel
theorem dX5_link_14 : decode cX5_link 14 = .ok (.iload_n 2, 1) := by decide +kernel
theorem dX5_link_15 : decode cX5_link 15 = .ok (.invokevirtual 67, 3) := by decide +kernel
theorem dX5_link_18 : decode cX5_link 18 = .ok (.ifCond .ne 6, 3) := by decide +kernel
theorem dX5_link_21 : decode cX5_link 21 = .ok (.bipush (-2), 2) := by decide +kernel
theorem dX5_link_23 : decode cX5_link 23 = .ok (.ireturn, 1) := by decide +kernel
theorem dX5_link_24 : decode cX5_link 24 = .ok (.aload_n 0, 1) := by decide +kernel
theorem dX5_link_25 : decode cX5_link 25 = .ok (.getfield 28, 3) := by decide +kernel
theorem dX5_link_28 : decode cX5_link 28 = .ok (.iload_n 1, 1) := by decide +kernel
theorem dX5_link_29 : decode cX5_link 29 = .ok (.iaload, 1) := by decide +kernel
theorem dX5_link_30 : decode cX5_link 30 = .ok (.istore_n 3, 1) := by decide +kernel
theorem dX5_link_31 : decode cX5_link 31 = .ok (.aload_n 0, 1) := by decide +kernel
theorem dX5_link_32 : decode cX5_link 32 = .ok (.getfield 28, 3) := by decide +kernel
theorem dX5_link_35 : decode cX5_link 35 = .ok (.iload_n 1, 1) := by decide +kernel
theorem dX5_link_36 : decode cX5_link 36 = .ok (.iload_n 2, 1) := by decide +kernel
theorem dX5_link_37 : decode cX5_link 37 = .ok (.iastore, 1) := by decide +kernel
theorem dX5_link_38 : decode cX5_link 38 = .ok (.iload_n 3, 1) := by decide +kernel
theorem dX5_link_39 : decode cX5_link 39 = .ok (.ireturn, 1) := by decide +kernel
theorem dX5_dropTop_0 : decode cX5_dropTop 0 = .ok (.aload_n 0, 1) := by decide +kernel
theorem dX5_dropTop_1 : decode cX5_dropTop 1 = .ok (.dup, 1) := by decide +kernel
theorem dX5_dropTop_2 : decode cX5_dropTop 2 = .ok (.getfield 76, 3) := by decide +kernel
theorem dX5_dropTop_5 : decode cX5_dropTop 5 = .ok (.iconst 1, 1) := by decide +kernel
theorem dX5_dropTop_6 : decode cX5_dropTop 6 = .ok (.isub, 1) := by decide +kernel
theorem dX5_dropTop_7 : decode cX5_dropTop 7 = .ok (.putfield 76, 3) := by decide +kernel
theorem dX5_dropTop_10 : decode cX5_dropTop 10 = .ok (.aload_n 0, 1) := by decide +kernel
theorem dX5_dropTop_11 : decode cX5_dropTop 11 = .ok (.getfield 34, 3) := by decide +kernel
theorem dX5_dropTop_14 : decode cX5_dropTop 14 = .ok (.aload_n 0, 1) := by decide +kernel
theorem dX5_dropTop_15 : decode cX5_dropTop 15 = .ok (.getfield 76, 3) := by decide +kernel
theorem dX5_dropTop_18 : decode cX5_dropTop 18 = .ok (.iaload, 1) := by decide +kernel
theorem dX5_dropTop_19 : decode cX5_dropTop 19 = .ok (.istore_n 2, 1) := by decide +kernel
theorem dX5_dropTop_20 : decode cX5_dropTop 20 = .ok (.aload_n 0, 1) := by decide +kernel
theorem dX5_dropTop_21 : decode cX5_dropTop 21 = .ok (.getfield 19, 3) := by decide +kernel
theorem dX5_dropTop_24 : decode cX5_dropTop 24 = .ok (.iload_n 2, 1) := by decide +kernel
theorem dX5_dropTop_25 : decode cX5_dropTop 25 = .ok (.dup2, 1) := by decide +kernel
theorem dX5_dropTop_26 : decode cX5_dropTop 26 = .ok (.iaload, 1) := by decide +kernel
theorem dX5_dropTop_27 : decode cX5_dropTop 27 = .ok (.iconst 1, 1) := by decide +kernel
theorem dX5_dropTop_28 : decode cX5_dropTop 28 = .ok (.isub, 1) := by decide +kernel
theorem dX5_dropTop_29 : decode cX5_dropTop 29 = .ok (.iastore, 1) := by decide +kernel
theorem dX5_dropTop_30 : decode cX5_dropTop 30 = .ok (.aload_n 0, 1) := by decide +kernel
theorem dX5_dropTop_31 : decode cX5_dropTop 31 = .ok (.iload_n 1, 1) := by decide +kernel
theorem dX5_dropTop_32 : decode cX5_dropTop 32 = .ok (.iload_n 2, 1) := by decide +kernel
theorem dX5_dropTop_33 : decode cX5_dropTop 33 = .ok (.iadd, 1) := by decide +kernel
theorem dX5_dropTop_34 : decode cX5_dropTop 34 = .ok (.invokevirtual 79, 3) := by decide +kernel
theorem dX5_dropTop_37 : decode cX5_dropTop 37 = .ok (.return_, 1) := by decide +kernel
theorem dX5_dropAll_0 : decode cX5_dropAll 0 = .ok (.aload_n 0, 1) := by decide +kernel
theorem dX5_dropAll_1 : decode cX5_dropAll 1 = .ok (.getfield 76, 3) := by decide +kernel
theorem dX5_dropAll_4 : decode cX5_dropAll 4 = .ok (.ifCond .le 11, 3) := by decide +kernel
theorem dX5_dropAll_7 : decode cX5_dropAll 7 = .ok (.aload_n 0, 1) := by decide +kernel
theorem dX5_dropAll_8 : decode cX5_dropAll 8 = .ok (.iload_n 1, 1) := by decide +kernel
theorem dX5_dropAll_9 : decode cX5_dropAll 9 = .ok (.invokevirtual 83, 3) := by decide +kernel
theorem dX5_dropAll_12 : decode cX5_dropAll 12 = .ok (.goto (-12), 3) := by decide +kernel
theorem dX5_dropAll_15 : decode cX5_dropAll 15 = .ok (.return_, 1) := by decide +kernel
theorem dX5_alarm_0 : decode cX5_alarm 0 = .ok (.aload_n 0, 1) := by decide +kernel
theorem dX5_alarm_1 : decode cX5_alarm 1 = .ok (.sipush 600, 3) := by decide +kernel
theorem dX5_alarm_4 : decode cX5_alarm 4 = .ok (.invokevirtual 86, 3) := by decide +kernel
theorem dX5_alarm_7 : decode cX5_alarm 7 = .ok (.aload_n 0, 1) := by decide +kernel
theorem dX5_alarm_8 : decode cX5_alarm 8 = .ok (.dup, 1) := by decide +kernel
theorem dX5_alarm_9 : decode cX5_alarm 9 = .ok (.getfield 89, 3) := by decide +kernel
theorem dX5_alarm_12 : decode cX5_alarm 12 = .ok (.iconst 1, 1) := by decide +kernel
theorem dX5_alarm_13 : decode cX5_alarm 13 = .ok (.iadd, 1) := by decide +kernel
theorem dX5_alarm_14 : decode cX5_alarm 14 = .ok (.putfield 89, 3) := by decide +kernel
theorem dX5_alarm_17 : decode cX5_alarm 17 = .ok (.return_, 1) := by decide +kernel
theorem dX5_turnKey_0 : decode cX5_turnKey 0 = .ok (.aload_n 0, 1) := by decide +kernel
theorem dX5_turnKey_1 : decode cX5_turnKey 1 = .ok (.getfield 19, 3) := by decide +kernel
theorem dX5_turnKey_4 : decode cX5_turnKey 4 = .ok (.iload_n 1, 1) := by decide +kernel
theorem dX5_turnKey_5 : decode cX5_turnKey 5 = .ok (.iaload, 1) := by decide +kernel
theorem dX5_turnKey_6 : decode cX5_turnKey 6 = .ok (.aload_n 0, 1) := by decide +kernel
theorem dX5_turnKey_7 : decode cX5_turnKey 7 = .ok (.getfield 7, 3) := by decide +kernel
theorem dX5_turnKey_10 : decode cX5_turnKey 10 = .ok (.iload_n 1, 1) := by decide +kernel
theorem dX5_turnKey_11 : decode cX5_turnKey 11 = .ok (.iaload, 1) := by decide +kernel
theorem dX5_turnKey_12 : decode cX5_turnKey 12 = .ok (.if_icmp .ne 19, 3) := by decide +kernel
theorem dX5_turnKey_15 : decode cX5_turnKey 15 = .ok (.aload_n 0, 1) := by decide +kernel
theorem dX5_turnKey_16 : decode cX5_turnKey 16 = .ok (.sipush 700, 3) := by decide +kernel
theorem dX5_turnKey_19 : decode cX5_turnKey 19 = .ok (.iload_n 1, 1) := by decide +kernel
theorem dX5_turnKey_20 : decode cX5_turnKey 20 = .ok (.iadd, 1) := by decide +kernel
theorem dX5_turnKey_21 : decode cX5_turnKey 21 = .ok (.invokevirtual 79, 3) := by decide +kernel
theorem dX5_turnKey_24 : decode cX5_turnKey 24 = .ok (.aload_n 0, 1) := by decide +kernel
theorem dX5_turnKey_25 : decode cX5_turnKey 25 = .ok (.invokevirtual 92, 3) := by decide +kernel
theorem dX5_turnKey_28 : decode cX5_turnKey 28 = .ok (.bipush (-7), 2) := by decide +kernel
theorem dX5_turnKey_30 : decode cX5_turnKey 30 = .ok (.ireturn, 1) := by decide +kernel
theorem dX5_turnKey_31 : decode cX5_turnKey 31 = .ok (.aload_n 0, 1) := by decide +kernel
theorem dX5_turnKey_32 : decode cX5_turnKey 32 = .ok (.getfield 16, 3) := by decide +kernel
theorem dX5_turnKey_35 : decode cX5_turnKey 35 = .ok (.iload_n 1, 1) := by decide +kernel
theorem dX5_turnKey_36 : decode cX5_turnKey 36 = .ok (.dup2, 1) := by decide +kernel
theorem dX5_turnKey_37 : decode cX5_turnKey 37 = .ok (.iaload, 1) := by decide +kernel
theorem dX5_turnKey_38 : decode cX5_turnKey 38 = .ok (.aload_n 0, 1) := by decide +kernel
theorem dX5_turnKey_39 : decode cX5_turnKey 39 = .ok (.getfield 13, 3) := by decide +kernel
theorem dX5_turnKey_42 : decode cX5_turnKey 42 = .ok (.iload_n 1, 1) := by decide +kernel
theorem dX5_turnKey_43 : decode cX5_turnKey 43 = .ok (.iaload, 1) := by decide +kernel
theorem dX5_turnKey_44 : decode cX5_turnKey 44 = .ok (.iadd, 1) := by decide +kernel
theorem dX5_turnKey_45 : decode cX5_turnKey 45 = .ok (.iastore, 1) := by decide +kernel
theorem dX5_turnKey_46 : decode cX5_turnKey 46 = .ok (.aload_n 0, 1) := by decide +kernel
theorem dX5_turnKey_47 : decode cX5_turnKey 47 = .ok (.getfield 19, 3) := by decide +kernel
theorem dX5_turnKey_50 : decode cX5_turnKey 50 = .ok (.iload_n 1, 1) := by decide +kernel
theorem dX5_turnKey_51 : decode cX5_turnKey 51 = .ok (.dup2, 1) := by decide +kernel
theorem dX5_turnKey_52 : decode cX5_turnKey 52 = .ok (.iaload, 1) := by decide +kernel
theorem dX5_turnKey_53 : decode cX5_turnKey 53 = .ok (.iconst 1, 1) := by decide +kernel
theorem dX5_turnKey_54 : decode cX5_turnKey 54 = .ok (.iadd, 1) := by decide +kernel
theorem dX5_turnKey_55 : decode cX5_turnKey 55 = .ok (.iastore, 1) := by decide +kernel
theorem dX5_turnKey_56 : decode cX5_turnKey 56 = .ok (.aload_n 0, 1) := by decide +kernel
theorem dX5_turnKey_57 : decode cX5_turnKey 57 = .ok (.getfield 34, 3) := by decide +kernel
theorem dX5_turnKey_60 : decode cX5_turnKey 60 = .ok (.aload_n 0, 1) := by decide +kernel
theorem dX5_turnKey_61 : decode cX5_turnKey 61 = .ok (.getfield 76, 3) := by decide +kernel
theorem dX5_turnKey_64 : decode cX5_turnKey 64 = .ok (.iload_n 1, 1) := by decide +kernel
theorem dX5_turnKey_65 : decode cX5_turnKey 65 = .ok (.iastore, 1) := by decide +kernel
theorem dX5_turnKey_66 : decode cX5_turnKey 66 = .ok (.aload_n 0, 1) := by decide +kernel
theorem dX5_turnKey_67 : decode cX5_turnKey 67 = .ok (.dup, 1) := by decide +kernel
theorem dX5_turnKey_68 : decode cX5_turnKey 68 = .ok (.getfield 76, 3) := by decide +kernel
theorem dX5_turnKey_71 : decode cX5_turnKey 71 = .ok (.iconst 1, 1) := by decide +kernel
theorem dX5_turnKey_72 : decode cX5_turnKey 72 = .ok (.iadd, 1) := by decide +kernel
theorem dX5_turnKey_73 : decode cX5_turnKey 73 = .ok (.putfield 76, 3) := by decide +kernel
theorem dX5_turnKey_76 : decode cX5_turnKey 76 = .ok (.aload_n 0, 1) := by decide +kernel
theorem dX5_turnKey_77 : decode cX5_turnKey 77 = .ok (.bipush 100, 2) := by decide +kernel
theorem dX5_turnKey_79 : decode cX5_turnKey 79 = .ok (.iload_n 1, 1) := by decide +kernel
theorem dX5_turnKey_80 : decode cX5_turnKey 80 = .ok (.iadd, 1) := by decide +kernel
theorem dX5_turnKey_81 : decode cX5_turnKey 81 = .ok (.invokevirtual 79, 3) := by decide +kernel
theorem dX5_turnKey_84 : decode cX5_turnKey 84 = .ok (.iconst 0, 1) := by decide +kernel
theorem dX5_turnKey_85 : decode cX5_turnKey 85 = .ok (.ireturn, 1) := by decide +kernel
theorem dX5_turnHand_0 : decode cX5_turnHand 0 = .ok (.aload_n 0, 1) := by decide +kernel
theorem dX5_turnHand_1 : decode cX5_turnHand 1 = .ok (.getfield 31, 3) := by decide +kernel
theorem dX5_turnHand_4 : decode cX5_turnHand 4 = .ok (.iconst 2, 1) := by decide +kernel
theorem dX5_turnHand_5 : decode cX5_turnHand 5 = .ok (.iload_n 1, 1) := by decide +kernel
theorem dX5_turnHand_6 : decode cX5_turnHand 6 = .ok (.imul, 1) := by decide +kernel
theorem dX5_turnHand_7 : decode cX5_turnHand 7 = .ok (.iload_n 2, 1) := by decide +kernel
theorem dX5_turnHand_8 : decode cX5_turnHand 8 = .ok (.iadd, 1) := by decide +kernel
theorem dX5_turnHand_9 : decode cX5_turnHand 9 = .ok (.iaload, 1) := by decide +kernel
theorem dX5_turnHand_10 : decode cX5_turnHand 10 = .ok (.istore_n 3, 1) := by decide +kernel
theorem dX5_turnHand_11 : decode cX5_turnHand 11 = .ok (.iload_n 3, 1) := by decide +kernel
theorem dX5_turnHand_12 : decode cX5_turnHand 12 = .ok (.iconst (-1), 1) := by decide +kernel
theorem dX5_turnHand_13 : decode cX5_turnHand 13 = .ok (.if_icmp .ne 14, 3) := by decide +kernel
theorem dX5_turnHand_16 : decode cX5_turnHand 16 = .ok (.aload_n 0, 1) := by decide +kernel
theorem dX5_turnHand_17 : decode cX5_turnHand 17 = .ok (.bipush 10, 2) := by decide +kernel
theorem dX5_turnHand_19 : decode cX5_turnHand 19 = .ok (.iload_n 2, 1) := by decide +kernel
theorem dX5_turnHand_20 : decode cX5_turnHand 20 = .ok (.iadd, 1) := by decide +kernel
theorem dX5_turnHand_21 : decode cX5_turnHand 21 = .ok (.invokevirtual 79, 3) := by decide +kernel
theorem dX5_turnHand_24 : decode cX5_turnHand 24 = .ok (.bipush (-4), 2) := by decide +kernel
theorem dX5_turnHand_26 : decode cX5_turnHand 26 = .ok (.ireturn, 1) := by decide +kernel
theorem dX5_turnHand_27 : decode cX5_turnHand 27 = .ok (.aload_n 0, 1) := by decide +kernel
theorem dX5_turnHand_28 : decode cX5_turnHand 28 = .ok (.iload_n 3, 1) := by decide +kernel
theorem dX5_turnHand_29 : decode cX5_turnHand 29 = .ok (.invokevirtual 95, 3) := by decide +kernel
theorem dX5_turnHand_32 : decode cX5_turnHand 32 = .ok (.ireturn, 1) := by decide +kernel
theorem dX5_turnBoth_0 : decode cX5_turnBoth 0 = .ok (.aload_n 0, 1) := by decide +kernel
theorem dX5_turnBoth_1 : decode cX5_turnBoth 1 = .ok (.iload_n 1, 1) := by decide +kernel
theorem dX5_turnBoth_2 : decode cX5_turnBoth 2 = .ok (.iconst 0, 1) := by decide +kernel
theorem dX5_turnBoth_3 : decode cX5_turnBoth 3 = .ok (.invokevirtual 99, 3) := by decide +kernel
theorem dX5_turnBoth_6 : decode cX5_turnBoth 6 = .ok (.istore_n 2, 1) := by decide +kernel
theorem dX5_turnBoth_7 : decode cX5_turnBoth 7 = .ok (.iload_n 2, 1) := by decide +kernel
theorem dX5_turnBoth_8 : decode cX5_turnBoth 8 = .ok (.ifCond .ne 10, 3) := by decide +kernel
theorem dX5_turnBoth_11 : decode cX5_turnBoth 11 = .ok (.aload_n 0, 1) := by decide +kernel
theorem dX5_turnBoth_12 : decode cX5_turnBoth 12 = .ok (.iload_n 1, 1) := by decide +kernel
theorem dX5_turnBoth_13 : decode cX5_turnBoth 13 = .ok (.iconst 1, 1) := by decide +kernel
theorem dX5_turnBoth_14 : decode cX5_turnBoth 14 = .ok (.invokevirtual 99, 3) := by decide +kernel
theorem dX5_turnBoth_17 : decode cX5_turnBoth 17 = .ok (.istore_n 2, 1) := by decide +kernel
theorem dX5_turnBoth_18 : decode cX5_turnBoth 18 = .ok (.iload_n 2, 1) := by decide +kernel
theorem dX5_turnBoth_19 : decode cX5_turnBoth 19 = .ok (.bipush (-4), 2) := by decide +kernel
theorem dX5_turnBoth_21 : decode cX5_turnBoth 21 = .ok (.if_icmp .ne 10, 3) := by decide +kernel
theorem dX5_turnBoth_24 : decode cX5_turnBoth 24 = .ok (.aload_n 0, 1) := by decide +kernel
theorem dX5_turnBoth_25 : decode cX5_turnBoth 25 = .ok (.sipush 300, 3) := by decide +kernel
theorem dX5_turnBoth_28 : decode cX5_turnBoth 28 = .ok (.invokevirtual 86, 3) := by decide +kernel
theorem dX5_turnBoth_31 : decode cX5_turnBoth 31 = .ok (.iload_n 2, 1) := by decide +kernel
theorem dX5_turnBoth_32 : decode cX5_turnBoth 32 = .ok (.ireturn, 1) := by decide +kernel
theorem dX5_ended_0 : decode cX5_ended 0 = .ok (.aload_n 0, 1) := by decide +kernel
theorem dX5_ended_1 : decode cX5_ended 1 = .ok (.sipush 200, 3) := by decide +kernel
theorem dX5_ended_4 : decode cX5_ended 4 = .ok (.invokevirtual 86, 3) := by decide +kernel
theorem dX5_ended_7 : decode cX5_ended 7 = .ok (.iload_n 1, 1) := by decide +kernel
theorem dX5_ended_8 : decode cX5_ended 8 = .ok (.ireturn, 1) := by decide +kernel
theorem dX5_answered_0 : decode cX5_answered 0 = .ok (.aload_n 0, 1) := by decide +kernel
theorem dX5_answered_1 : decode cX5_answered 1 = .ok (.sipush 300, 3) := by decide +kernel
theorem dX5_answered_4 : decode cX5_answered 4 = .ok (.invokevirtual 86, 3) := by decide +kernel
theorem dX5_answered_7 : decode cX5_answered 7 = .ok (.iload_n 1, 1) := by decide +kernel
theorem dX5_answered_8 : decode cX5_answered 8 = .ok (.ireturn, 1) := by decide +kernel
theorem dX5_alarmed_0 : decode cX5_alarmed 0 = .ok (.aload_n 0, 1) := by decide +kernel
theorem dX5_alarmed_1 : decode cX5_alarmed 1 = .ok (.invokevirtual 92, 3) := by decide +kernel
theorem dX5_alarmed_4 : decode cX5_alarmed 4 = .ok (.iload_n 1, 1) := by decide +kernel
theorem dX5_alarmed_5 : decode cX5_alarmed 5 = .ok (.ireturn, 1) := by decide +kernel
theorem dX5_put_0 : decode cX5_put 0 = .ok (.aload_n 0, 1) := by decide +kernel
theorem dX5_put_1 : decode cX5_put 1 = .ok (.iload_n 1, 1) := by decide +kernel
theorem dX5_put_2 : decode cX5_put 2 = .ok (.invokevirtual 67, 3) := by decide +kernel
theorem dX5_put_5 : decode cX5_put 5 = .ok (.ifCond .eq 10, 3) := by decide +kernel
theorem dX5_put_8 : decode cX5_put 8 = .ok (.iload_n 2, 1) := by decide +kernel
theorem dX5_put_9 : decode cX5_put 9 = .ok (.invokestatic 63, 3) := by decide +kernel
theorem dX5_put_12 : decode cX5_put 12 = .ok (.ifCond .ne 6, 3) := by decide +kernel
theorem dX5_put_15 : decode cX5_put 15 = .ok (.bipush (-2), 2) := by decide +kernel
theorem dX5_put_17 : decode cX5_put 17 = .ok (.ireturn, 1) := by decide +kernel
theorem dX5_put_18 : decode cX5_put 18 = .ok (.aload_n 0, 1) := by decide +kernel
theorem dX5_put_19 : decode cX5_put 19 = .ok (.iload_n 1, 1) := by decide +kernel
theorem dX5_put_20 : decode cX5_put 20 = .ok (.invokevirtual 103, 3) := by decide +kernel
theorem dX5_put_23 : decode cX5_put 23 = .ok (.istore_n 3, 1) := by decide +kernel
theorem dX5_put_24 : decode cX5_put 24 = .ok (.iload_n 3, 1) := by decide +kernel
theorem dX5_put_25 : decode cX5_put 25 = .ok (.ifCond .eq 5, 3) := by decide +kernel
theorem dX5_put_28 : decode cX5_put 28 = .ok (.iload_n 3, 1) := by decide +kernel
theorem dX5_put_29 : decode cX5_put 29 = .ok (.ireturn, 1) := by decide +kernel
theorem dX5_put_30 : decode cX5_put 30 = .ok (.aload_n 0, 1) := by decide +kernel
theorem dX5_put_31 : decode cX5_put 31 = .ok (.getfield 22, 3) := by decide +kernel
theorem dX5_put_34 : decode cX5_put 34 = .ok (.iload_n 1, 1) := by decide +kernel
theorem dX5_put_35 : decode cX5_put 35 = .ok (.iaload, 1) := by decide +kernel
theorem dX5_put_36 : decode cX5_put 36 = .ok (.iload_n 2, 1) := by decide +kernel
theorem dX5_put_37 : decode cX5_put 37 = .ok (.iadd, 1) := by decide +kernel
theorem dX5_put_38 : decode cX5_put 38 = .ok (.aload_n 0, 1) := by decide +kernel
theorem dX5_put_39 : decode cX5_put 39 = .ok (.getfield 25, 3) := by decide +kernel
theorem dX5_put_42 : decode cX5_put 42 = .ok (.iload_n 1, 1) := by decide +kernel
theorem dX5_put_43 : decode cX5_put 43 = .ok (.iaload, 1) := by decide +kernel
theorem dX5_put_44 : decode cX5_put 44 = .ok (.if_icmp .le 10, 3) := by decide +kernel
theorem dX5_put_47 : decode cX5_put 47 = .ok (.aload_n 0, 1) := by decide +kernel
theorem dX5_put_48 : decode cX5_put 48 = .ok (.bipush (-5), 2) := by decide +kernel
theorem dX5_put_50 : decode cX5_put 50 = .ok (.invokevirtual 106, 3) := by decide +kernel
theorem dX5_put_53 : decode cX5_put 53 = .ok (.ireturn, 1) := by decide +kernel
theorem dX5_put_54 : decode cX5_put 54 = .ok (.aload_n 0, 1) := by decide +kernel
theorem dX5_put_55 : decode cX5_put 55 = .ok (.getfield 22, 3) := by decide +kernel
theorem dX5_put_58 : decode cX5_put 58 = .ok (.iload_n 1, 1) := by decide +kernel
theorem dX5_put_59 : decode cX5_put 59 = .ok (.dup2, 1) := by decide +kernel
theorem dX5_put_60 : decode cX5_put 60 = .ok (.iaload, 1) := by decide +kernel
theorem dX5_put_61 : decode cX5_put 61 = .ok (.iload_n 2, 1) := by decide +kernel
theorem dX5_put_62 : decode cX5_put 62 = .ok (.iadd, 1) := by decide +kernel
theorem dX5_put_63 : decode cX5_put 63 = .ok (.iastore, 1) := by decide +kernel
theorem dX5_put_64 : decode cX5_put 64 = .ok (.aload_n 0, 1) := by decide +kernel
theorem dX5_put_65 : decode cX5_put 65 = .ok (.aload_n 0, 1) := by decide +kernel
theorem dX5_put_66 : decode cX5_put 66 = .ok (.getfield 22, 3) := by decide +kernel
theorem dX5_put_69 : decode cX5_put 69 = .ok (.iload_n 1, 1) := by decide +kernel
theorem dX5_put_70 : decode cX5_put 70 = .ok (.iaload, 1) := by decide +kernel
theorem dX5_put_71 : decode cX5_put 71 = .ok (.invokevirtual 109, 3) := by decide +kernel
theorem dX5_put_74 : decode cX5_put 74 = .ok (.ireturn, 1) := by decide +kernel
theorem dX5_take_0 : decode cX5_take 0 = .ok (.aload_n 0, 1) := by decide +kernel
theorem dX5_take_1 : decode cX5_take 1 = .ok (.iload_n 1, 1) := by decide +kernel
theorem dX5_take_2 : decode cX5_take 2 = .ok (.invokevirtual 67, 3) := by decide +kernel
theorem dX5_take_5 : decode cX5_take 5 = .ok (.ifCond .eq 10, 3) := by decide +kernel
theorem dX5_take_8 : decode cX5_take 8 = .ok (.iload_n 2, 1) := by decide +kernel
theorem dX5_take_9 : decode cX5_take 9 = .ok (.invokestatic 63, 3) := by decide +kernel
theorem dX5_take_12 : decode cX5_take 12 = .ok (.ifCond .ne 6, 3) := by decide +kernel
theorem dX5_take_15 : decode cX5_take 15 = .ok (.bipush (-2), 2) := by decide +kernel
theorem dX5_take_17 : decode cX5_take 17 = .ok (.ireturn, 1) := by decide +kernel
theorem dX5_take_18 : decode cX5_take 18 = .ok (.aload_n 0, 1) := by decide +kernel
theorem dX5_take_19 : decode cX5_take 19 = .ok (.iload_n 1, 1) := by decide +kernel
theorem dX5_take_20 : decode cX5_take 20 = .ok (.invokevirtual 103, 3) := by decide +kernel
theorem dX5_take_23 : decode cX5_take 23 = .ok (.istore_n 3, 1) := by decide +kernel
theorem dX5_take_24 : decode cX5_take 24 = .ok (.iload_n 3, 1) := by decide +kernel
theorem dX5_take_25 : decode cX5_take 25 = .ok (.ifCond .eq 5, 3) := by decide +kernel
theorem dX5_take_28 : decode cX5_take 28 = .ok (.iload_n 3, 1) := by decide +kernel
theorem dX5_take_29 : decode cX5_take 29 = .ok (.ireturn, 1) := by decide +kernel
theorem dX5_take_30 : decode cX5_take 30 = .ok (.aload_n 0, 1) := by decide +kernel
theorem dX5_take_31 : decode cX5_take 31 = .ok (.getfield 22, 3) := by decide +kernel
theorem dX5_take_34 : decode cX5_take 34 = .ok (.iload_n 1, 1) := by decide +kernel
theorem dX5_take_35 : decode cX5_take 35 = .ok (.iaload, 1) := by decide +kernel
theorem dX5_take_36 : decode cX5_take 36 = .ok (.iload_n 2, 1) := by decide +kernel
theorem dX5_take_37 : decode cX5_take 37 = .ok (.if_icmp .ge 10, 3) := by decide +kernel
theorem dX5_take_40 : decode cX5_take 40 = .ok (.aload_n 0, 1) := by decide +kernel
theorem dX5_take_41 : decode cX5_take 41 = .ok (.bipush (-6), 2) := by decide +kernel
theorem dX5_take_43 : decode cX5_take 43 = .ok (.invokevirtual 112, 3) := by decide +kernel
theorem dX5_take_46 : decode cX5_take 46 = .ok (.ireturn, 1) := by decide +kernel
theorem dX5_take_47 : decode cX5_take 47 = .ok (.aload_n 0, 1) := by decide +kernel
theorem dX5_take_48 : decode cX5_take 48 = .ok (.getfield 22, 3) := by decide +kernel
theorem dX5_take_51 : decode cX5_take 51 = .ok (.iload_n 1, 1) := by decide +kernel
theorem dX5_take_52 : decode cX5_take 52 = .ok (.dup2, 1) := by decide +kernel
theorem dX5_take_53 : decode cX5_take 53 = .ok (.iaload, 1) := by decide +kernel
theorem dX5_take_54 : decode cX5_take 54 = .ok (.iload_n 2, 1) := by decide +kernel
theorem dX5_take_55 : decode cX5_take 55 = .ok (.isub, 1) := by decide +kernel
theorem dX5_take_56 : decode cX5_take 56 = .ok (.iastore, 1) := by decide +kernel
theorem dX5_take_57 : decode cX5_take 57 = .ok (.aload_n 0, 1) := by decide +kernel
theorem dX5_take_58 : decode cX5_take 58 = .ok (.aload_n 0, 1) := by decide +kernel
theorem dX5_take_59 : decode cX5_take 59 = .ok (.getfield 22, 3) := by decide +kernel
theorem dX5_take_62 : decode cX5_take 62 = .ok (.iload_n 1, 1) := by decide +kernel
theorem dX5_take_63 : decode cX5_take 63 = .ok (.iaload, 1) := by decide +kernel
theorem dX5_take_64 : decode cX5_take 64 = .ok (.invokevirtual 109, 3) := by decide +kernel
theorem dX5_take_67 : decode cX5_take 67 = .ok (.ireturn, 1) := by decide +kernel
theorem dX5_move_0 : decode cX5_move 0 = .ok (.aload_n 0, 1) := by decide +kernel
theorem dX5_move_1 : decode cX5_move 1 = .ok (.iload_n 1, 1) := by decide +kernel
theorem dX5_move_2 : decode cX5_move 2 = .ok (.invokevirtual 67, 3) := by decide +kernel
theorem dX5_move_5 : decode cX5_move 5 = .ok (.ifCond .eq 18, 3) := by decide +kernel
theorem dX5_move_8 : decode cX5_move 8 = .ok (.aload_n 0, 1) := by decide +kernel
theorem dX5_move_9 : decode cX5_move 9 = .ok (.iload_n 2, 1) := by decide +kernel
theorem dX5_move_10 : decode cX5_move 10 = .ok (.invokevirtual 67, 3) := by decide +kernel
theorem dX5_move_13 : decode cX5_move 13 = .ok (.ifCond .eq 10, 3) := by decide +kernel
theorem dX5_move_16 : decode cX5_move 16 = .ok (.iload_n 3, 1) := by decide +kernel
theorem dX5_move_17 : decode cX5_move 17 = .ok (.invokestatic 63, 3) := by decide +kernel
theorem dX5_move_20 : decode cX5_move 20 = .ok (.ifCond .ne 6, 3) := by decide +kernel
theorem dX5_move_23 : decode cX5_move 23 = .ok (.bipush (-2), 2) := by decide +kernel
theorem dX5_move_25 : decode cX5_move 25 = .ok (.ireturn, 1) := by decide +kernel
theorem dX5_move_26 : decode cX5_move 26 = .ok (.aload_n 0, 1) := by decide +kernel
theorem dX5_move_27 : decode cX5_move 27 = .ok (.iload_n 1, 1) := by decide +kernel
theorem dX5_move_28 : decode cX5_move 28 = .ok (.invokevirtual 103, 3) := by decide +kernel
theorem dX5_move_31 : decode cX5_move 31 = .ok (.istore 4, 2) := by decide +kernel
theorem dX5_move_33 : decode cX5_move 33 = .ok (.iload 4, 2) := by decide +kernel
theorem dX5_move_35 : decode cX5_move 35 = .ok (.ifCond .ne 10, 3) := by decide +kernel
theorem dX5_move_38 : decode cX5_move 38 = .ok (.aload_n 0, 1) := by decide +kernel
theorem dX5_move_39 : decode cX5_move 39 = .ok (.iload_n 2, 1) := by decide +kernel
theorem dX5_move_40 : decode cX5_move 40 = .ok (.invokevirtual 103, 3) := by decide +kernel
theorem dX5_move_43 : decode cX5_move 43 = .ok (.istore 4, 2) := by decide +kernel
theorem dX5_move_45 : decode cX5_move 45 = .ok (.iload 4, 2) := by decide +kernel
theorem dX5_move_47 : decode cX5_move 47 = .ok (.ifCond .eq 6, 3) := by decide +kernel
theorem dX5_move_50 : decode cX5_move 50 = .ok (.iload 4, 2) := by decide +kernel
theorem dX5_move_52 : decode cX5_move 52 = .ok (.ireturn, 1) := by decide +kernel
theorem dX5_move_53 : decode cX5_move 53 = .ok (.aload_n 0, 1) := by decide +kernel
theorem dX5_move_54 : decode cX5_move 54 = .ok (.getfield 22, 3) := by decide +kernel
theorem dX5_move_57 : decode cX5_move 57 = .ok (.iload_n 1, 1) := by decide +kernel
theorem dX5_move_58 : decode cX5_move 58 = .ok (.iaload, 1) := by decide +kernel
theorem dX5_move_59 : decode cX5_move 59 = .ok (.iload_n 3, 1) := by decide +kernel
theorem dX5_move_60 : decode cX5_move 60 = .ok (.if_icmp .ge 10, 3) := by decide +kernel
theorem dX5_move_63 : decode cX5_move 63 = .ok (.aload_n 0, 1) := by decide +kernel
theorem dX5_move_64 : decode cX5_move 64 = .ok (.bipush (-6), 2) := by decide +kernel
theorem dX5_move_66 : decode cX5_move 66 = .ok (.invokevirtual 112, 3) := by decide +kernel
theorem dX5_move_69 : decode cX5_move 69 = .ok (.ireturn, 1) := by decide +kernel
theorem dX5_move_70 : decode cX5_move 70 = .ok (.aload_n 0, 1) := by decide +kernel
theorem dX5_move_71 : decode cX5_move 71 = .ok (.getfield 22, 3) := by decide +kernel
theorem dX5_move_74 : decode cX5_move 74 = .ok (.iload_n 2, 1) := by decide +kernel
theorem dX5_move_75 : decode cX5_move 75 = .ok (.iaload, 1) := by decide +kernel
theorem dX5_move_76 : decode cX5_move 76 = .ok (.iload_n 3, 1) := by decide +kernel
theorem dX5_move_77 : decode cX5_move 77 = .ok (.iadd, 1) := by decide +kernel
theorem dX5_move_78 : decode cX5_move 78 = .ok (.aload_n 0, 1) := by decide +kernel
theorem dX5_move_79 : decode cX5_move 79 = .ok (.getfield 25, 3) := by decide +kernel
theorem dX5_move_82 : decode cX5_move 82 = .ok (.iload_n 2, 1) := by decide +kernel
theorem dX5_move_83 : decode cX5_move 83 = .ok (.iaload, 1) := by decide +kernel
theorem dX5_move_84 : decode cX5_move 84 = .ok (.if_icmp .le 10, 3) := by decide +kernel
theorem dX5_move_87 : decode cX5_move 87 = .ok (.aload_n 0, 1) := by decide +kernel
theorem dX5_move_88 : decode cX5_move 88 = .ok (.bipush (-5), 2) := by decide +kernel
theorem dX5_move_90 : decode cX5_move 90 = .ok (.invokevirtual 106, 3) := by decide +kernel
theorem dX5_move_93 : decode cX5_move 93 = .ok (.ireturn, 1) := by decide +kernel
theorem dX5_move_94 : decode cX5_move 94 = .ok (.aload_n 0, 1) := by decide +kernel
theorem dX5_move_95 : decode cX5_move 95 = .ok (.getfield 22, 3) := by decide +kernel
theorem dX5_move_98 : decode cX5_move 98 = .ok (.iload_n 1, 1) := by decide +kernel
theorem dX5_move_99 : decode cX5_move 99 = .ok (.dup2, 1) := by decide +kernel
theorem dX5_move_100 : decode cX5_move 100 = .ok (.iaload, 1) := by decide +kernel
theorem dX5_move_101 : decode cX5_move 101 = .ok (.iload_n 3, 1) := by decide +kernel
theorem dX5_move_102 : decode cX5_move 102 = .ok (.isub, 1) := by decide +kernel
theorem dX5_move_103 : decode cX5_move 103 = .ok (.iastore, 1) := by decide +kernel
theorem dX5_move_104 : decode cX5_move 104 = .ok (.aload_n 0, 1) := by decide +kernel
theorem dX5_move_105 : decode cX5_move 105 = .ok (.getfield 22, 3) := by decide +kernel
theorem dX5_move_108 : decode cX5_move 108 = .ok (.iload_n 2, 1) := by decide +kernel
theorem dX5_move_109 : decode cX5_move 109 = .ok (.dup2, 1) := by decide +kernel
theorem dX5_move_110 : decode cX5_move 110 = .ok (.iaload, 1) := by decide +kernel
theorem dX5_move_111 : decode cX5_move 111 = .ok (.iload_n 3, 1) := by decide +kernel
theorem dX5_move_112 : decode cX5_move 112 = .ok (.iadd, 1) := by decide +kernel
theorem dX5_move_113 : decode cX5_move 113 = .ok (.iastore, 1) := by decide +kernel
theorem dX5_move_114 : decode cX5_move 114 = .ok (.aload_n 0, 1) := by decide +kernel
theorem dX5_move_115 : decode cX5_move 115 = .ok (.aload_n 0, 1) := by decide +kernel
theorem dX5_move_116 : decode cX5_move 116 = .ok (.getfield 22, 3) := by decide +kernel
theorem dX5_move_119 : decode cX5_move 119 = .ok (.iload_n 1, 1) := by decide +kernel
theorem dX5_move_120 : decode cX5_move 120 = .ok (.iaload, 1) := by decide +kernel
theorem dX5_move_121 : decode cX5_move 121 = .ok (.invokevirtual 109, 3) := by decide +kernel
theorem dX5_move_124 : decode cX5_move 124 = .ok (.ireturn, 1) := by decide +kernel
theorem dX5_split_0 : decode cX5_split 0 = .ok (.aload_n 0, 1) := by decide +kernel
theorem dX5_split_1 : decode cX5_split 1 = .ok (.iload_n 1, 1) := by decide +kernel
theorem dX5_split_2 : decode cX5_split 2 = .ok (.invokevirtual 67, 3) := by decide +kernel
theorem dX5_split_5 : decode cX5_split 5 = .ok (.ifCond .eq 14, 3) := by decide +kernel
theorem dX5_split_8 : decode cX5_split 8 = .ok (.iload_n 2, 1) := by decide +kernel
theorem dX5_split_9 : decode cX5_split 9 = .ok (.ifCond .lt 10, 3) := by decide +kernel
theorem dX5_split_12 : decode cX5_split 12 = .ok (.iload_n 2, 1) := by decide +kernel
theorem dX5_split_13 : decode cX5_split 13 = .ok (.sipush 1000, 3) := by decide +kernel
theorem dX5_split_16 : decode cX5_split 16 = .ok (.if_icmp .le 6, 3) := by decide +kernel
theorem dX5_split_19 : decode cX5_split 19 = .ok (.bipush (-2), 2) := by decide +kernel
theorem dX5_split_21 : decode cX5_split 21 = .ok (.ireturn, 1) := by decide +kernel
theorem dX5_split_22 : decode cX5_split 22 = .ok (.aload_n 0, 1) := by decide +kernel
theorem dX5_split_23 : decode cX5_split 23 = .ok (.iload_n 1, 1) := by decide +kernel
theorem dX5_split_24 : decode cX5_split 24 = .ok (.invokevirtual 103, 3) := by decide +kernel
theorem dX5_split_27 : decode cX5_split 27 = .ok (.istore_n 3, 1) := by decide +kernel
theorem dX5_split_28 : decode cX5_split 28 = .ok (.iload_n 3, 1) := by decide +kernel
end
section
theorem dX5_split_29 : decode cX5_split 29 = .ok (.ifCond .eq 5, 3) := by decide +kernel
theorem dX5_split_32 : decode cX5_split 32 = .ok (.iload_n 3, 1) := by decide +kernel
theorem dX5_split_33 : decode cX5_split 33 = .ok (.ireturn, 1) := by decide +kernel
theorem dX5_split_34 : decode cX5_split 34 = .ok (.iload_n 2, 1) := by decide +kernel
theorem dX5_split_35 : decode cX5_split 35 = .ok (.ifCond .ne 10, 3) := by decide +kernel
theorem dX5_split_38 : decode cX5_split 38 = .ok (.aload_n 0, 1) := by decide +kernel
theorem dX5_split_39 : decode cX5_split 39 = .ok (.bipush (-8), 2) := by decide +kernel
theorem dX5_split_41 : decode cX5_split 41 = .ok (.invokevirtual 112, 3) := by decide +kernel
theorem dX5_split_44 : decode cX5_split 44 = .ok (.ireturn, 1) := by decide +kernel
theorem dX5_split_45 : decode cX5_split 45 = .ok (.aload_n 0, 1) := by decide +kernel
theorem dX5_split_46 : decode cX5_split 46 = .ok (.aload_n 0, 1) := by decide +kernel
theorem dX5_split_47 : decode cX5_split 47 = .ok (.getfield 22, 3) := by decide +kernel
theorem dX5_split_50 : decode cX5_split 50 = .ok (.iload_n 1, 1) := by decide +kernel
theorem dX5_split_51 : decode cX5_split 51 = .ok (.iaload, 1) := by decide +kernel
theorem dX5_split_52 : decode cX5_split 52 = .ok (.iload_n 2, 1) := by decide +kernel
theorem dX5_split_53 : decode cX5_split 53 = .ok (.idiv, 1) := by decide +kernel
theorem dX5_split_54 : decode cX5_split 54 = .ok (.invokevirtual 109, 3) := by decide +kernel
theorem dX5_split_57 : decode cX5_split 57 = .ok (.ireturn, 1) := by decide +kernel
theorem dX5_swap_0 : decode cX5_swap 0 = .ok (.aload_n 0, 1) := by decide +kernel
theorem dX5_swap_1 : decode cX5_swap 1 = .ok (.iload_n 1, 1) := by decide +kernel
theorem dX5_swap_2 : decode cX5_swap 2 = .ok (.invokevirtual 67, 3) := by decide +kernel
theorem dX5_swap_5 : decode cX5_swap 5 = .ok (.ifCond .ne 6, 3) := by decide +kernel
theorem dX5_swap_8 : decode cX5_swap 8 = .ok (.bipush (-2), 2) := by decide +kernel
theorem dX5_swap_10 : decode cX5_swap 10 = .ok (.ireturn, 1) := by decide +kernel
theorem dX5_swap_11 : decode cX5_swap 11 = .ok (.aload_n 0, 1) := by decide +kernel
theorem dX5_swap_12 : decode cX5_swap 12 = .ok (.iload_n 1, 1) := by decide +kernel
theorem dX5_swap_13 : decode cX5_swap 13 = .ok (.invokevirtual 103, 3) := by decide +kernel
theorem dX5_swap_16 : decode cX5_swap 16 = .ok (.istore_n 2, 1) := by decide +kernel
theorem dX5_swap_17 : decode cX5_swap 17 = .ok (.iload_n 2, 1) := by decide +kernel
theorem dX5_swap_18 : decode cX5_swap 18 = .ok (.ifCond .eq 5, 3) := by decide +kernel
theorem dX5_swap_21 : decode cX5_swap 21 = .ok (.iload_n 2, 1) := by decide +kernel
theorem dX5_swap_22 : decode cX5_swap 22 = .ok (.ireturn, 1) := by decide +kernel
theorem dX5_swap_23 : decode cX5_swap 23 = .ok (.aload_n 0, 1) := by decide +kernel
theorem dX5_swap_24 : decode cX5_swap 24 = .ok (.getfield 31, 3) := by decide +kernel
theorem dX5_swap_27 : decode cX5_swap 27 = .ok (.iconst 2, 1) := by decide +kernel
theorem dX5_swap_28 : decode cX5_swap 28 = .ok (.iload_n 1, 1) := by decide +kernel
theorem dX5_swap_29 : decode cX5_swap 29 = .ok (.imul, 1) := by decide +kernel
theorem dX5_swap_30 : decode cX5_swap 30 = .ok (.iaload, 1) := by decide +kernel
theorem dX5_swap_31 : decode cX5_swap 31 = .ok (.istore_n 3, 1) := by decide +kernel
theorem dX5_swap_32 : decode cX5_swap 32 = .ok (.aload_n 0, 1) := by decide +kernel
theorem dX5_swap_33 : decode cX5_swap 33 = .ok (.getfield 31, 3) := by decide +kernel
theorem dX5_swap_36 : decode cX5_swap 36 = .ok (.iconst 2, 1) := by decide +kernel
theorem dX5_swap_37 : decode cX5_swap 37 = .ok (.iload_n 1, 1) := by decide +kernel
theorem dX5_swap_38 : decode cX5_swap 38 = .ok (.imul, 1) := by decide +kernel
theorem dX5_swap_39 : decode cX5_swap 39 = .ok (.aload_n 0, 1) := by decide +kernel
theorem dX5_swap_40 : decode cX5_swap 40 = .ok (.getfield 31, 3) := by decide +kernel
theorem dX5_swap_43 : decode cX5_swap 43 = .ok (.iconst 2, 1) := by decide +kernel
theorem dX5_swap_44 : decode cX5_swap 44 = .ok (.iload_n 1, 1) := by decide +kernel
theorem dX5_swap_45 : decode cX5_swap 45 = .ok (.imul, 1) := by decide +kernel
theorem dX5_swap_46 : decode cX5_swap 46 = .ok (.iconst 1, 1) := by decide +kernel
theorem dX5_swap_47 : decode cX5_swap 47 = .ok (.iadd, 1) := by decide +kernel
theorem dX5_swap_48 : decode cX5_swap 48 = .ok (.iaload, 1) := by decide +kernel
theorem dX5_swap_49 : decode cX5_swap 49 = .ok (.iastore, 1) := by decide +kernel
theorem dX5_swap_50 : decode cX5_swap 50 = .ok (.aload_n 0, 1) := by decide +kernel
theorem dX5_swap_51 : decode cX5_swap 51 = .ok (.getfield 31, 3) := by decide +kernel
theorem dX5_swap_54 : decode cX5_swap 54 = .ok (.iconst 2, 1) := by decide +kernel
theorem dX5_swap_55 : decode cX5_swap 55 = .ok (.iload_n 1, 1) := by decide +kernel
theorem dX5_swap_56 : decode cX5_swap 56 = .ok (.imul, 1) := by decide +kernel
theorem dX5_swap_57 : decode cX5_swap 57 = .ok (.iconst 1, 1) := by decide +kernel
theorem dX5_swap_58 : decode cX5_swap 58 = .ok (.iadd, 1) := by decide +kernel
theorem dX5_swap_59 : decode cX5_swap 59 = .ok (.iload_n 3, 1) := by decide +kernel
theorem dX5_swap_60 : decode cX5_swap 60 = .ok (.iastore, 1) := by decide +kernel
theorem dX5_swap_61 : decode cX5_swap 61 = .ok (.aload_n 0, 1) := by decide +kernel
theorem dX5_swap_62 : decode cX5_swap 62 = .ok (.aload_n 0, 1) := by decide +kernel
theorem dX5_swap_63 : decode cX5_swap 63 = .ok (.getfield 31, 3) := by decide +kernel
theorem dX5_swap_66 : decode cX5_swap 66 = .ok (.iconst 2, 1) := by decide +kernel
theorem dX5_swap_67 : decode cX5_swap 67 = .ok (.iload_n 1, 1) := by decide +kernel
theorem dX5_swap_68 : decode cX5_swap 68 = .ok (.imul, 1) := by decide +kernel
theorem dX5_swap_69 : decode cX5_swap 69 = .ok (.iaload, 1) := by decide +kernel
theorem dX5_swap_70 : decode cX5_swap 70 = .ok (.invokevirtual 109, 3) := by decide +kernel
theorem dX5_swap_73 : decode cX5_swap 73 = .ok (.ireturn, 1) := by decide +kernel
theorem dX5_polish_0 : decode cX5_polish 0 = .ok (.aload_n 0, 1) := by decide +kernel
theorem dX5_polish_1 : decode cX5_polish 1 = .ok (.iload_n 1, 1) := by decide +kernel
theorem dX5_polish_2 : decode cX5_polish 2 = .ok (.invokevirtual 73, 3) := by decide +kernel
theorem dX5_polish_5 : decode cX5_polish 5 = .ok (.ifCond .ne 6, 3) := by decide +kernel
theorem dX5_polish_8 : decode cX5_polish 8 = .ok (.bipush (-2), 2) := by decide +kernel
theorem dX5_polish_10 : decode cX5_polish 10 = .ok (.ireturn, 1) := by decide +kernel
theorem dX5_polish_11 : decode cX5_polish 11 = .ok (.aload_n 0, 1) := by decide +kernel
theorem dX5_polish_12 : decode cX5_polish 12 = .ok (.iload_n 1, 1) := by decide +kernel
theorem dX5_polish_13 : decode cX5_polish 13 = .ok (.invokevirtual 95, 3) := by decide +kernel
theorem dX5_polish_16 : decode cX5_polish 16 = .ok (.istore_n 2, 1) := by decide +kernel
theorem dX5_polish_17 : decode cX5_polish 17 = .ok (.iload_n 2, 1) := by decide +kernel
theorem dX5_polish_18 : decode cX5_polish 18 = .ok (.ifCond .eq 5, 3) := by decide +kernel
theorem dX5_polish_21 : decode cX5_polish 21 = .ok (.iload_n 2, 1) := by decide +kernel
theorem dX5_polish_22 : decode cX5_polish 22 = .ok (.ireturn, 1) := by decide +kernel
theorem dX5_polish_23 : decode cX5_polish 23 = .ok (.aload_n 0, 1) := by decide +kernel
theorem dX5_polish_24 : decode cX5_polish 24 = .ok (.getfield 16, 3) := by decide +kernel
theorem dX5_polish_27 : decode cX5_polish 27 = .ok (.iload_n 1, 1) := by decide +kernel
theorem dX5_polish_28 : decode cX5_polish 28 = .ok (.iaload, 1) := by decide +kernel
theorem dX5_polish_29 : decode cX5_polish 29 = .ok (.istore_n 3, 1) := by decide +kernel
theorem dX5_polish_30 : decode cX5_polish 30 = .ok (.aload_n 0, 1) := by decide +kernel
theorem dX5_polish_31 : decode cX5_polish 31 = .ok (.getfield 16, 3) := by decide +kernel
theorem dX5_polish_34 : decode cX5_polish 34 = .ok (.iload_n 1, 1) := by decide +kernel
theorem dX5_polish_35 : decode cX5_polish 35 = .ok (.iconst 0, 1) := by decide +kernel
theorem dX5_polish_36 : decode cX5_polish 36 = .ok (.iastore, 1) := by decide +kernel
theorem dX5_polish_37 : decode cX5_polish 37 = .ok (.aload_n 0, 1) := by decide +kernel
theorem dX5_polish_38 : decode cX5_polish 38 = .ok (.iload_n 3, 1) := by decide +kernel
theorem dX5_polish_39 : decode cX5_polish 39 = .ok (.invokevirtual 109, 3) := by decide +kernel
theorem dX5_polish_42 : decode cX5_polish 42 = .ok (.ireturn, 1) := by decide +kernel
theorem dX5_areThere_0 : decode cX5_areThere 0 = .ok (.iload_n 2, 1) := by decide +kernel
theorem dX5_areThere_1 : decode cX5_areThere 1 = .ok (.iconst 1, 1) := by decide +kernel
theorem dX5_areThere_2 : decode cX5_areThere 2 = .ok (.if_icmp .lt 35, 3) := by decide +kernel
theorem dX5_areThere_5 : decode cX5_areThere 5 = .ok (.iload_n 2, 1) := by decide +kernel
theorem dX5_areThere_6 : decode cX5_areThere 6 = .ok (.bipush 12, 2) := by decide +kernel
theorem dX5_areThere_8 : decode cX5_areThere 8 = .ok (.if_icmp .gt 29, 3) := by decide +kernel
theorem dX5_areThere_11 : decode cX5_areThere 11 = .ok (.iload_n 1, 1) := by decide +kernel
theorem dX5_areThere_12 : decode cX5_areThere 12 = .ok (.ifCond .lt 25, 3) := by decide +kernel
theorem dX5_areThere_15 : decode cX5_areThere 15 = .ok (.iload_n 1, 1) := by decide +kernel
theorem dX5_areThere_16 : decode cX5_areThere 16 = .ok (.aload_n 0, 1) := by decide +kernel
theorem dX5_areThere_17 : decode cX5_areThere 17 = .ok (.getfield 56, 3) := by decide +kernel
theorem dX5_areThere_20 : decode cX5_areThere 20 = .ok (.if_icmp .ge 17, 3) := by decide +kernel
theorem dX5_areThere_23 : decode cX5_areThere 23 = .ok (.iload_n 2, 1) := by decide +kernel
theorem dX5_areThere_24 : decode cX5_areThere 24 = .ok (.aload_n 0, 1) := by decide +kernel
theorem dX5_areThere_25 : decode cX5_areThere 25 = .ok (.getfield 56, 3) := by decide +kernel
theorem dX5_areThere_28 : decode cX5_areThere 28 = .ok (.iload_n 1, 1) := by decide +kernel
theorem dX5_areThere_29 : decode cX5_areThere 29 = .ok (.isub, 1) := by decide +kernel
theorem dX5_areThere_30 : decode cX5_areThere 30 = .ok (.if_icmp .gt 7, 3) := by decide +kernel
theorem dX5_areThere_33 : decode cX5_areThere 33 = .ok (.iconst 1, 1) := by decide +kernel
theorem dX5_areThere_34 : decode cX5_areThere 34 = .ok (.goto 4, 3) := by decide +kernel
theorem dX5_areThere_37 : decode cX5_areThere 37 = .ok (.iconst 0, 1) := by decide +kernel
theorem dX5_areThere_38 : decode cX5_areThere 38 = .ok (.ireturn, 1) := by decide +kernel
theorem dX5_rounds_0 : decode cX5_rounds 0 = .ok (.aload_n 0, 1) := by decide +kernel
theorem dX5_rounds_1 : decode cX5_rounds 1 = .ok (.iload_n 1, 1) := by decide +kernel
theorem dX5_rounds_2 : decode cX5_rounds 2 = .ok (.iload_n 2, 1) := by decide +kernel
theorem dX5_rounds_3 : decode cX5_rounds 3 = .ok (.invokevirtual 114, 3) := by decide +kernel
theorem dX5_rounds_6 : decode cX5_rounds 6 = .ok (.ifCond .eq 14, 3) := by decide +kernel
theorem dX5_rounds_9 : decode cX5_rounds 9 = .ok (.iload_n 3, 1) := by decide +kernel
theorem dX5_rounds_10 : decode cX5_rounds 10 = .ok (.iconst 1, 1) := by decide +kernel
theorem dX5_rounds_11 : decode cX5_rounds 11 = .ok (.if_icmp .lt 9, 3) := by decide +kernel
theorem dX5_rounds_14 : decode cX5_rounds 14 = .ok (.iload_n 3, 1) := by decide +kernel
theorem dX5_rounds_15 : decode cX5_rounds 15 = .ok (.bipush 12, 2) := by decide +kernel
theorem dX5_rounds_17 : decode cX5_rounds 17 = .ok (.if_icmp .le 6, 3) := by decide +kernel
theorem dX5_rounds_20 : decode cX5_rounds 20 = .ok (.bipush (-2), 2) := by decide +kernel
theorem dX5_rounds_22 : decode cX5_rounds 22 = .ok (.ireturn, 1) := by decide +kernel
theorem dX5_rounds_23 : decode cX5_rounds 23 = .ok (.iconst 0, 1) := by decide +kernel
theorem dX5_rounds_24 : decode cX5_rounds 24 = .ok (.istore 4, 2) := by decide +kernel
theorem dX5_rounds_26 : decode cX5_rounds 26 = .ok (.iload_n 1, 1) := by decide +kernel
theorem dX5_rounds_27 : decode cX5_rounds 27 = .ok (.istore 5, 2) := by decide +kernel
theorem dX5_rounds_29 : decode cX5_rounds 29 = .ok (.iload 5, 2) := by decide +kernel
theorem dX5_rounds_31 : decode cX5_rounds 31 = .ok (.iload_n 1, 1) := by decide +kernel
theorem dX5_rounds_32 : decode cX5_rounds 32 = .ok (.iload_n 2, 1) := by decide +kernel
theorem dX5_rounds_33 : decode cX5_rounds 33 = .ok (.iadd, 1) := by decide +kernel
theorem dX5_rounds_34 : decode cX5_rounds 34 = .ok (.if_icmp .ge 95, 3) := by decide +kernel
theorem dX5_rounds_37 : decode cX5_rounds 37 = .ok (.aload_n 0, 1) := by decide +kernel
theorem dX5_rounds_38 : decode cX5_rounds 38 = .ok (.iload 5, 2) := by decide +kernel
theorem dX5_rounds_40 : decode cX5_rounds 40 = .ok (.iconst 0, 1) := by decide +kernel
theorem dX5_rounds_41 : decode cX5_rounds 41 = .ok (.invokevirtual 99, 3) := by decide +kernel
theorem dX5_rounds_44 : decode cX5_rounds 44 = .ok (.istore 6, 2) := by decide +kernel
theorem dX5_rounds_46 : decode cX5_rounds 46 = .ok (.iload 6, 2) := by decide +kernel
theorem dX5_rounds_48 : decode cX5_rounds 48 = .ok (.bipush (-7), 2) := by decide +kernel
theorem dX5_rounds_50 : decode cX5_rounds 50 = .ok (.if_icmp .ne 6, 3) := by decide +kernel
theorem dX5_rounds_53 : decode cX5_rounds 53 = .ok (.bipush (-7), 2) := by decide +kernel
theorem dX5_rounds_55 : decode cX5_rounds 55 = .ok (.ireturn, 1) := by decide +kernel
theorem dX5_rounds_56 : decode cX5_rounds 56 = .ok (.iload 6, 2) := by decide +kernel
theorem dX5_rounds_58 : decode cX5_rounds 58 = .ok (.bipush (-4), 2) := by decide +kernel
theorem dX5_rounds_60 : decode cX5_rounds 60 = .ok (.if_icmp .ne 6, 3) := by decide +kernel
theorem dX5_rounds_63 : decode cX5_rounds 63 = .ok (.goto 60, 3) := by decide +kernel
theorem dX5_rounds_66 : decode cX5_rounds 66 = .ok (.aload_n 0, 1) := by decide +kernel
theorem dX5_rounds_67 : decode cX5_rounds 67 = .ok (.getfield 22, 3) := by decide +kernel
theorem dX5_rounds_70 : decode cX5_rounds 70 = .ok (.iload 5, 2) := by decide +kernel
theorem dX5_rounds_72 : decode cX5_rounds 72 = .ok (.iaload, 1) := by decide +kernel
theorem dX5_rounds_73 : decode cX5_rounds 73 = .ok (.ifCond .ne 13, 3) := by decide +kernel
theorem dX5_rounds_76 : decode cX5_rounds 76 = .ok (.aload_n 0, 1) := by decide +kernel
theorem dX5_rounds_77 : decode cX5_rounds 77 = .ok (.sipush 500, 3) := by decide +kernel
theorem dX5_rounds_80 : decode cX5_rounds 80 = .ok (.invokevirtual 83, 3) := by decide +kernel
theorem dX5_rounds_83 : decode cX5_rounds 83 = .ok (.goto 40, 3) := by decide +kernel
theorem dX5_rounds_86 : decode cX5_rounds 86 = .ok (.aload_n 0, 1) := by decide +kernel
theorem dX5_rounds_87 : decode cX5_rounds 87 = .ok (.getfield 22, 3) := by decide +kernel
theorem dX5_rounds_90 : decode cX5_rounds 90 = .ok (.iload 5, 2) := by decide +kernel
theorem dX5_rounds_92 : decode cX5_rounds 92 = .ok (.dup2, 1) := by decide +kernel
theorem dX5_rounds_93 : decode cX5_rounds 93 = .ok (.iaload, 1) := by decide +kernel
theorem dX5_rounds_94 : decode cX5_rounds 94 = .ok (.iconst 1, 1) := by decide +kernel
theorem dX5_rounds_95 : decode cX5_rounds 95 = .ok (.isub, 1) := by decide +kernel
theorem dX5_rounds_96 : decode cX5_rounds 96 = .ok (.iastore, 1) := by decide +kernel
theorem dX5_rounds_97 : decode cX5_rounds 97 = .ok (.iinc 4 1, 3) := by decide +kernel
theorem dX5_rounds_100 : decode cX5_rounds 100 = .ok (.iload 4, 2) := by decide +kernel
theorem dX5_rounds_102 : decode cX5_rounds 102 = .ok (.iload_n 3, 1) := by decide +kernel
theorem dX5_rounds_103 : decode cX5_rounds 103 = .ok (.if_icmp .ne 13, 3) := by decide +kernel
theorem dX5_rounds_106 : decode cX5_rounds 106 = .ok (.aload_n 0, 1) := by decide +kernel
theorem dX5_rounds_107 : decode cX5_rounds 107 = .ok (.sipush 400, 3) := by decide +kernel
theorem dX5_rounds_110 : decode cX5_rounds 110 = .ok (.invokevirtual 83, 3) := by decide +kernel
theorem dX5_rounds_113 : decode cX5_rounds 113 = .ok (.iload 4, 2) := by decide +kernel
theorem dX5_rounds_115 : decode cX5_rounds 115 = .ok (.ireturn, 1) := by decide +kernel
theorem dX5_rounds_116 : decode cX5_rounds 116 = .ok (.aload_n 0, 1) := by decide +kernel
theorem dX5_rounds_117 : decode cX5_rounds 117 = .ok (.sipush 200, 3) := by decide +kernel
theorem dX5_rounds_120 : decode cX5_rounds 120 = .ok (.invokevirtual 83, 3) := by decide +kernel
theorem dX5_rounds_123 : decode cX5_rounds 123 = .ok (.iinc 5 1, 3) := by decide +kernel
theorem dX5_rounds_126 : decode cX5_rounds 126 = .ok (.goto (-97), 3) := by decide +kernel
theorem dX5_rounds_129 : decode cX5_rounds 129 = .ok (.iload 4, 2) := by decide +kernel
theorem dX5_rounds_131 : decode cX5_rounds 131 = .ok (.ireturn, 1) := by decide +kernel
theorem dX5_sweep_0 : decode cX5_sweep 0 = .ok (.aload_n 0, 1) := by decide +kernel
theorem dX5_sweep_1 : decode cX5_sweep 1 = .ok (.iload_n 1, 1) := by decide +kernel
theorem dX5_sweep_2 : decode cX5_sweep 2 = .ok (.iload_n 2, 1) := by decide +kernel
theorem dX5_sweep_3 : decode cX5_sweep 3 = .ok (.invokevirtual 114, 3) := by decide +kernel
theorem dX5_sweep_6 : decode cX5_sweep 6 = .ok (.ifCond .eq 14, 3) := by decide +kernel
theorem dX5_sweep_9 : decode cX5_sweep 9 = .ok (.iload_n 3, 1) := by decide +kernel
theorem dX5_sweep_10 : decode cX5_sweep 10 = .ok (.iconst 1, 1) := by decide +kernel
theorem dX5_sweep_11 : decode cX5_sweep 11 = .ok (.if_icmp .lt 9, 3) := by decide +kernel
theorem dX5_sweep_14 : decode cX5_sweep 14 = .ok (.iload_n 3, 1) := by decide +kernel
theorem dX5_sweep_15 : decode cX5_sweep 15 = .ok (.ldc 59, 2) := by decide +kernel
theorem dX5_sweep_17 : decode cX5_sweep 17 = .ok (.if_icmp .le 6, 3) := by decide +kernel
theorem dX5_sweep_20 : decode cX5_sweep 20 = .ok (.bipush (-2), 2) := by decide +kernel
theorem dX5_sweep_22 : decode cX5_sweep 22 = .ok (.ireturn, 1) := by decide +kernel
theorem dX5_sweep_23 : decode cX5_sweep 23 = .ok (.iload_n 3, 1) := by decide +kernel
theorem dX5_sweep_24 : decode cX5_sweep 24 = .ok (.istore 4, 2) := by decide +kernel
theorem dX5_sweep_26 : decode cX5_sweep 26 = .ok (.iload_n 1, 1) := by decide +kernel
theorem dX5_sweep_27 : decode cX5_sweep 27 = .ok (.istore 5, 2) := by decide +kernel
theorem dX5_sweep_29 : decode cX5_sweep 29 = .ok (.iload 5, 2) := by decide +kernel
theorem dX5_sweep_31 : decode cX5_sweep 31 = .ok (.iload_n 1, 1) := by decide +kernel
theorem dX5_sweep_32 : decode cX5_sweep 32 = .ok (.iload_n 2, 1) := by decide +kernel
theorem dX5_sweep_33 : decode cX5_sweep 33 = .ok (.iadd, 1) := by decide +kernel
theorem dX5_sweep_34 : decode cX5_sweep 34 = .ok (.if_icmp .ge 140, 3) := by decide +kernel
theorem dX5_sweep_37 : decode cX5_sweep 37 = .ok (.aload_n 0, 1) := by decide +kernel
theorem dX5_sweep_38 : decode cX5_sweep 38 = .ok (.iload 5, 2) := by decide +kernel
theorem dX5_sweep_40 : decode cX5_sweep 40 = .ok (.iconst 0, 1) := by decide +kernel
theorem dX5_sweep_41 : decode cX5_sweep 41 = .ok (.invokevirtual 99, 3) := by decide +kernel
theorem dX5_sweep_44 : decode cX5_sweep 44 = .ok (.istore 6, 2) := by decide +kernel
theorem dX5_sweep_46 : decode cX5_sweep 46 = .ok (.iload 6, 2) := by decide +kernel
theorem dX5_sweep_48 : decode cX5_sweep 48 = .ok (.bipush (-7), 2) := by decide +kernel
theorem dX5_sweep_50 : decode cX5_sweep 50 = .ok (.if_icmp .ne 6, 3) := by decide +kernel
theorem dX5_sweep_53 : decode cX5_sweep 53 = .ok (.bipush (-7), 2) := by decide +kernel
theorem dX5_sweep_55 : decode cX5_sweep 55 = .ok (.ireturn, 1) := by decide +kernel
theorem dX5_sweep_56 : decode cX5_sweep 56 = .ok (.iload 6, 2) := by decide +kernel
theorem dX5_sweep_58 : decode cX5_sweep 58 = .ok (.bipush (-4), 2) := by decide +kernel
theorem dX5_sweep_60 : decode cX5_sweep 60 = .ok (.if_icmp .ne 6, 3) := by decide +kernel
theorem dX5_sweep_63 : decode cX5_sweep 63 = .ok (.goto 105, 3) := by decide +kernel
theorem dX5_sweep_66 : decode cX5_sweep 66 = .ok (.aload_n 0, 1) := by decide +kernel
theorem dX5_sweep_67 : decode cX5_sweep 67 = .ok (.iload 5, 2) := by decide +kernel
theorem dX5_sweep_69 : decode cX5_sweep 69 = .ok (.iconst 1, 1) := by decide +kernel
theorem dX5_sweep_70 : decode cX5_sweep 70 = .ok (.invokevirtual 99, 3) := by decide +kernel
theorem dX5_sweep_73 : decode cX5_sweep 73 = .ok (.istore 6, 2) := by decide +kernel
theorem dX5_sweep_75 : decode cX5_sweep 75 = .ok (.iload 6, 2) := by decide +kernel
theorem dX5_sweep_77 : decode cX5_sweep 77 = .ok (.bipush (-7), 2) := by decide +kernel
theorem dX5_sweep_79 : decode cX5_sweep 79 = .ok (.if_icmp .ne 6, 3) := by decide +kernel
theorem dX5_sweep_82 : decode cX5_sweep 82 = .ok (.bipush (-7), 2) := by decide +kernel
theorem dX5_sweep_84 : decode cX5_sweep 84 = .ok (.ireturn, 1) := by decide +kernel
theorem dX5_sweep_85 : decode cX5_sweep 85 = .ok (.iload 6, 2) := by decide +kernel
theorem dX5_sweep_87 : decode cX5_sweep 87 = .ok (.bipush (-4), 2) := by decide +kernel
theorem dX5_sweep_89 : decode cX5_sweep 89 = .ok (.if_icmp .ne 13, 3) := by decide +kernel
theorem dX5_sweep_92 : decode cX5_sweep 92 = .ok (.aload_n 0, 1) := by decide +kernel
theorem dX5_sweep_93 : decode cX5_sweep 93 = .ok (.sipush 500, 3) := by decide +kernel
theorem dX5_sweep_96 : decode cX5_sweep 96 = .ok (.invokevirtual 83, 3) := by decide +kernel
theorem dX5_sweep_99 : decode cX5_sweep 99 = .ok (.goto 69, 3) := by decide +kernel
theorem dX5_sweep_102 : decode cX5_sweep 102 = .ok (.aload_n 0, 1) := by decide +kernel
theorem dX5_sweep_103 : decode cX5_sweep 103 = .ok (.getfield 22, 3) := by decide +kernel
theorem dX5_sweep_106 : decode cX5_sweep 106 = .ok (.iload 5, 2) := by decide +kernel
theorem dX5_sweep_108 : decode cX5_sweep 108 = .ok (.iaload, 1) := by decide +kernel
theorem dX5_sweep_109 : decode cX5_sweep 109 = .ok (.iload 4, 2) := by decide +kernel
theorem dX5_sweep_111 : decode cX5_sweep 111 = .ok (.if_icmp .ge 13, 3) := by decide +kernel
theorem dX5_sweep_114 : decode cX5_sweep 114 = .ok (.aload_n 0, 1) := by decide +kernel
theorem dX5_sweep_115 : decode cX5_sweep 115 = .ok (.getfield 22, 3) := by decide +kernel
theorem dX5_sweep_118 : decode cX5_sweep 118 = .ok (.iload 5, 2) := by decide +kernel
theorem dX5_sweep_120 : decode cX5_sweep 120 = .ok (.iaload, 1) := by decide +kernel
theorem dX5_sweep_121 : decode cX5_sweep 121 = .ok (.goto 5, 3) := by decide +kernel
theorem dX5_sweep_124 : decode cX5_sweep 124 = .ok (.iload 4, 2) := by decide +kernel
theorem dX5_sweep_126 : decode cX5_sweep 126 = .ok (.istore 7, 2) := by decide +kernel
theorem dX5_sweep_128 : decode cX5_sweep 128 = .ok (.aload_n 0, 1) := by decide +kernel
theorem dX5_sweep_129 : decode cX5_sweep 129 = .ok (.getfield 22, 3) := by decide +kernel
theorem dX5_sweep_132 : decode cX5_sweep 132 = .ok (.iload 5, 2) := by decide +kernel
theorem dX5_sweep_134 : decode cX5_sweep 134 = .ok (.dup2, 1) := by decide +kernel
theorem dX5_sweep_135 : decode cX5_sweep 135 = .ok (.iaload, 1) := by decide +kernel
theorem dX5_sweep_136 : decode cX5_sweep 136 = .ok (.iload 7, 2) := by decide +kernel
theorem dX5_sweep_138 : decode cX5_sweep 138 = .ok (.isub, 1) := by decide +kernel
theorem dX5_sweep_139 : decode cX5_sweep 139 = .ok (.iastore, 1) := by decide +kernel
theorem dX5_sweep_140 : decode cX5_sweep 140 = .ok (.iload 4, 2) := by decide +kernel
theorem dX5_sweep_142 : decode cX5_sweep 142 = .ok (.iload 7, 2) := by decide +kernel
theorem dX5_sweep_144 : decode cX5_sweep 144 = .ok (.isub, 1) := by decide +kernel
theorem dX5_sweep_145 : decode cX5_sweep 145 = .ok (.istore 4, 2) := by decide +kernel
theorem dX5_sweep_147 : decode cX5_sweep 147 = .ok (.iload 4, 2) := by decide +kernel
theorem dX5_sweep_149 : decode cX5_sweep 149 = .ok (.ifCond .ne 12, 3) := by decide +kernel
theorem dX5_sweep_152 : decode cX5_sweep 152 = .ok (.aload_n 0, 1) := by decide +kernel
theorem dX5_sweep_153 : decode cX5_sweep 153 = .ok (.sipush 400, 3) := by decide +kernel
theorem dX5_sweep_156 : decode cX5_sweep 156 = .ok (.invokevirtual 86, 3) := by decide +kernel
theorem dX5_sweep_159 : decode cX5_sweep 159 = .ok (.iload_n 3, 1) := by decide +kernel
theorem dX5_sweep_160 : decode cX5_sweep 160 = .ok (.ireturn, 1) := by decide +kernel
theorem dX5_sweep_161 : decode cX5_sweep 161 = .ok (.aload_n 0, 1) := by decide +kernel
theorem dX5_sweep_162 : decode cX5_sweep 162 = .ok (.sipush 200, 3) := by decide +kernel
theorem dX5_sweep_165 : decode cX5_sweep 165 = .ok (.invokevirtual 86, 3) := by decide +kernel
theorem dX5_sweep_168 : decode cX5_sweep 168 = .ok (.iinc 5 1, 3) := by decide +kernel
theorem dX5_sweep_171 : decode cX5_sweep 171 = .ok (.goto (-142), 3) := by decide +kernel
theorem dX5_sweep_174 : decode cX5_sweep 174 = .ok (.iload_n 3, 1) := by decide +kernel
theorem dX5_sweep_175 : decode cX5_sweep 175 = .ok (.iload 4, 2) := by decide +kernel
theorem dX5_sweep_177 : decode cX5_sweep 177 = .ok (.isub, 1) := by decide +kernel
theorem dX5_sweep_178 : decode cX5_sweep 178 = .ok (.ireturn, 1) := by decide +kernel
theorem dX5_walk_0 : decode cX5_walk 0 = .ok (.aload_n 0, 1) := by decide +kernel
theorem dX5_walk_1 : decode cX5_walk 1 = .ok (.iload_n 1, 1) := by decide +kernel
theorem dX5_walk_2 : decode cX5_walk 2 = .ok (.invokevirtual 67, 3) := by decide +kernel
theorem dX5_walk_5 : decode cX5_walk 5 = .ok (.ifCond .eq 18, 3) := by decide +kernel
theorem dX5_walk_8 : decode cX5_walk 8 = .ok (.iload_n 2, 1) := by decide +kernel
theorem dX5_walk_9 : decode cX5_walk 9 = .ok (.iconst 1, 1) := by decide +kernel
theorem dX5_walk_10 : decode cX5_walk 10 = .ok (.if_icmp .lt 13, 3) := by decide +kernel
theorem dX5_walk_13 : decode cX5_walk 13 = .ok (.iload_n 2, 1) := by decide +kernel
theorem dX5_walk_14 : decode cX5_walk 14 = .ok (.bipush 60, 2) := by decide +kernel
theorem dX5_walk_16 : decode cX5_walk 16 = .ok (.if_icmp .gt 7, 3) := by decide +kernel
theorem dX5_walk_19 : decode cX5_walk 19 = .ok (.iload_n 3, 1) := by decide +kernel
theorem dX5_walk_20 : decode cX5_walk 20 = .ok (.ifCond .ge 6, 3) := by decide +kernel
theorem dX5_walk_23 : decode cX5_walk 23 = .ok (.bipush (-2), 2) := by decide +kernel
theorem dX5_walk_25 : decode cX5_walk 25 = .ok (.ireturn, 1) := by decide +kernel
theorem dX5_walk_26 : decode cX5_walk 26 = .ok (.iconst 0, 1) := by decide +kernel
theorem dX5_walk_27 : decode cX5_walk 27 = .ok (.istore 4, 2) := by decide +kernel
theorem dX5_walk_29 : decode cX5_walk 29 = .ok (.iload_n 1, 1) := by decide +kernel
theorem dX5_walk_30 : decode cX5_walk 30 = .ok (.istore 5, 2) := by decide +kernel
theorem dX5_walk_32 : decode cX5_walk 32 = .ok (.iconst 1, 1) := by decide +kernel
theorem dX5_walk_33 : decode cX5_walk 33 = .ok (.istore 6, 2) := by decide +kernel
theorem dX5_walk_35 : decode cX5_walk 35 = .ok (.iload 5, 2) := by decide +kernel
theorem dX5_walk_37 : decode cX5_walk 37 = .ok (.iconst (-1), 1) := by decide +kernel
theorem dX5_walk_38 : decode cX5_walk 38 = .ok (.if_icmp .eq 86, 3) := by decide +kernel
theorem dX5_walk_41 : decode cX5_walk 41 = .ok (.aload_n 0, 1) := by decide +kernel
theorem dX5_walk_42 : decode cX5_walk 42 = .ok (.iload 5, 2) := by decide +kernel
theorem dX5_walk_44 : decode cX5_walk 44 = .ok (.iconst 0, 1) := by decide +kernel
theorem dX5_walk_45 : decode cX5_walk 45 = .ok (.invokevirtual 99, 3) := by decide +kernel
theorem dX5_walk_48 : decode cX5_walk 48 = .ok (.istore 7, 2) := by decide +kernel
theorem dX5_walk_50 : decode cX5_walk 50 = .ok (.iload 7, 2) := by decide +kernel
theorem dX5_walk_52 : decode cX5_walk 52 = .ok (.bipush (-7), 2) := by decide +kernel
theorem dX5_walk_54 : decode cX5_walk 54 = .ok (.if_icmp .ne 6, 3) := by decide +kernel
theorem dX5_walk_57 : decode cX5_walk 57 = .ok (.bipush (-7), 2) := by decide +kernel
theorem dX5_walk_59 : decode cX5_walk 59 = .ok (.ireturn, 1) := by decide +kernel
theorem dX5_walk_60 : decode cX5_walk 60 = .ok (.iload 7, 2) := by decide +kernel
theorem dX5_walk_62 : decode cX5_walk 62 = .ok (.bipush (-4), 2) := by decide +kernel
theorem dX5_walk_64 : decode cX5_walk 64 = .ok (.if_icmp .ne 10, 3) := by decide +kernel
theorem dX5_walk_67 : decode cX5_walk 67 = .ok (.aload_n 0, 1) := by decide +kernel
theorem dX5_walk_68 : decode cX5_walk 68 = .ok (.iload 4, 2) := by decide +kernel
theorem dX5_walk_70 : decode cX5_walk 70 = .ok (.invokevirtual 109, 3) := by decide +kernel
theorem dX5_walk_73 : decode cX5_walk 73 = .ok (.ireturn, 1) := by decide +kernel
theorem dX5_walk_74 : decode cX5_walk 74 = .ok (.iload 4, 2) := by decide +kernel
theorem dX5_walk_76 : decode cX5_walk 76 = .ok (.aload_n 0, 1) := by decide +kernel
theorem dX5_walk_77 : decode cX5_walk 77 = .ok (.getfield 22, 3) := by decide +kernel
theorem dX5_walk_80 : decode cX5_walk 80 = .ok (.iload 5, 2) := by decide +kernel
theorem dX5_walk_82 : decode cX5_walk 82 = .ok (.iaload, 1) := by decide +kernel
theorem dX5_walk_83 : decode cX5_walk 83 = .ok (.iadd, 1) := by decide +kernel
theorem dX5_walk_84 : decode cX5_walk 84 = .ok (.istore 4, 2) := by decide +kernel
theorem dX5_walk_86 : decode cX5_walk 86 = .ok (.iload 4, 2) := by decide +kernel
theorem dX5_walk_88 : decode cX5_walk 88 = .ok (.iload_n 3, 1) := by decide +kernel
theorem dX5_walk_89 : decode cX5_walk 89 = .ok (.if_icmp .le 10, 3) := by decide +kernel
theorem dX5_walk_92 : decode cX5_walk 92 = .ok (.aload_n 0, 1) := by decide +kernel
theorem dX5_walk_93 : decode cX5_walk 93 = .ok (.bipush (-6), 2) := by decide +kernel
theorem dX5_walk_95 : decode cX5_walk 95 = .ok (.invokevirtual 112, 3) := by decide +kernel
theorem dX5_walk_98 : decode cX5_walk 98 = .ok (.ireturn, 1) := by decide +kernel
theorem dX5_walk_99 : decode cX5_walk 99 = .ok (.iload 6, 2) := by decide +kernel
theorem dX5_walk_101 : decode cX5_walk 101 = .ok (.iload_n 2, 1) := by decide +kernel
theorem dX5_walk_102 : decode cX5_walk 102 = .ok (.if_icmp .ne 7, 3) := by decide +kernel
theorem dX5_walk_105 : decode cX5_walk 105 = .ok (.iconst (-1), 1) := by decide +kernel
theorem dX5_walk_106 : decode cX5_walk 106 = .ok (.goto 10, 3) := by decide +kernel
theorem dX5_walk_109 : decode cX5_walk 109 = .ok (.aload_n 0, 1) := by decide +kernel
theorem dX5_walk_110 : decode cX5_walk 110 = .ok (.getfield 28, 3) := by decide +kernel
theorem dX5_walk_113 : decode cX5_walk 113 = .ok (.iload 5, 2) := by decide +kernel
theorem dX5_walk_115 : decode cX5_walk 115 = .ok (.iaload, 1) := by decide +kernel
theorem dX5_walk_116 : decode cX5_walk 116 = .ok (.istore 5, 2) := by decide +kernel
theorem dX5_walk_118 : decode cX5_walk 118 = .ok (.iinc 6 1, 3) := by decide +kernel
theorem dX5_walk_121 : decode cX5_walk 121 = .ok (.goto (-86), 3) := by decide +kernel
theorem dX5_walk_124 : decode cX5_walk 124 = .ok (.aload_n 0, 1) := by decide +kernel
theorem dX5_walk_125 : decode cX5_walk 125 = .ok (.iload 4, 2) := by decide +kernel
theorem dX5_walk_127 : decode cX5_walk 127 = .ok (.invokevirtual 109, 3) := by decide +kernel
theorem dX5_walk_130 : decode cX5_walk 130 = .ok (.ireturn, 1) := by decide +kernel
theorem dX5_isOrder_0 : decode cX5_isOrder 0 = .ok (.iload_n 1, 1) := by decide +kernel
theorem dX5_isOrder_1 : decode cX5_isOrder 1 = .ok (.iconst 4, 1) := by decide +kernel
theorem dX5_isOrder_2 : decode cX5_isOrder 2 = .ok (.if_icmp .ne 5, 3) := by decide +kernel
theorem dX5_isOrder_5 : decode cX5_isOrder 5 = .ok (.iconst 1, 1) := by decide +kernel
theorem dX5_isOrder_6 : decode cX5_isOrder 6 = .ok (.ireturn, 1) := by decide +kernel
theorem dX5_isOrder_7 : decode cX5_isOrder 7 = .ok (.iload_n 1, 1) := by decide +kernel
theorem dX5_isOrder_8 : decode cX5_isOrder 8 = .ok (.ifCond .lt 16, 3) := by decide +kernel
theorem dX5_isOrder_11 : decode cX5_isOrder 11 = .ok (.iload_n 1, 1) := by decide +kernel
theorem dX5_isOrder_12 : decode cX5_isOrder 12 = .ok (.iconst 4, 1) := by decide +kernel
theorem dX5_isOrder_13 : decode cX5_isOrder 13 = .ok (.if_icmp .gt 11, 3) := by decide +kernel
theorem dX5_isOrder_16 : decode cX5_isOrder 16 = .ok (.aload_n 0, 1) := by decide +kernel
theorem dX5_isOrder_17 : decode cX5_isOrder 17 = .ok (.iload_n 2, 1) := by decide +kernel
theorem dX5_isOrder_18 : decode cX5_isOrder 18 = .ok (.invokevirtual 67, 3) := by decide +kernel
theorem dX5_isOrder_21 : decode cX5_isOrder 21 = .ok (.ifCond .ne 5, 3) := by decide +kernel
theorem dX5_isOrder_24 : decode cX5_isOrder 24 = .ok (.iconst 0, 1) := by decide +kernel
theorem dX5_isOrder_25 : decode cX5_isOrder 25 = .ok (.ireturn, 1) := by decide +kernel
theorem dX5_isOrder_26 : decode cX5_isOrder 26 = .ok (.iload_n 1, 1) := by decide +kernel
theorem dX5_isOrder_27 : decode cX5_isOrder 27 = .ok (.iconst 3, 1) := by decide +kernel
theorem dX5_isOrder_28 : decode cX5_isOrder 28 = .ok (.if_icmp .ne 5, 3) := by decide +kernel
theorem dX5_isOrder_31 : decode cX5_isOrder 31 = .ok (.iconst 1, 1) := by decide +kernel
theorem dX5_isOrder_32 : decode cX5_isOrder 32 = .ok (.ireturn, 1) := by decide +kernel
theorem dX5_isOrder_33 : decode cX5_isOrder 33 = .ok (.iload 4, 2) := by decide +kernel
theorem dX5_isOrder_35 : decode cX5_isOrder 35 = .ok (.invokestatic 63, 3) := by decide +kernel
theorem dX5_isOrder_38 : decode cX5_isOrder 38 = .ok (.ifCond .eq 20, 3) := by decide +kernel
theorem dX5_isOrder_41 : decode cX5_isOrder 41 = .ok (.iload_n 1, 1) := by decide +kernel
theorem dX5_isOrder_42 : decode cX5_isOrder 42 = .ok (.iconst 2, 1) := by decide +kernel
theorem dX5_isOrder_43 : decode cX5_isOrder 43 = .ok (.if_icmp .ne 11, 3) := by decide +kernel
theorem dX5_isOrder_46 : decode cX5_isOrder 46 = .ok (.aload_n 0, 1) := by decide +kernel
theorem dX5_isOrder_47 : decode cX5_isOrder 47 = .ok (.iload_n 3, 1) := by decide +kernel
theorem dX5_isOrder_48 : decode cX5_isOrder 48 = .ok (.invokevirtual 67, 3) := by decide +kernel
theorem dX5_isOrder_51 : decode cX5_isOrder 51 = .ok (.ifCond .eq 7, 3) := by decide +kernel
theorem dX5_isOrder_54 : decode cX5_isOrder 54 = .ok (.iconst 1, 1) := by decide +kernel
theorem dX5_isOrder_55 : decode cX5_isOrder 55 = .ok (.goto 4, 3) := by decide +kernel
theorem dX5_isOrder_58 : decode cX5_isOrder 58 = .ok (.iconst 0, 1) := by decide +kernel
theorem dX5_isOrder_59 : decode cX5_isOrder 59 = .ok (.ireturn, 1) := by decide +kernel
theorem dX5_order_0 : decode cX5_order 0 = .ok (.aload_n 0, 1) := by decide +kernel
theorem dX5_order_1 : decode cX5_order 1 = .ok (.iload_n 1, 1) := by decide +kernel
theorem dX5_order_2 : decode cX5_order 2 = .ok (.iload_n 2, 1) := by decide +kernel
theorem dX5_order_3 : decode cX5_order 3 = .ok (.iload_n 3, 1) := by decide +kernel
theorem dX5_order_4 : decode cX5_order 4 = .ok (.iload 4, 2) := by decide +kernel
theorem dX5_order_6 : decode cX5_order 6 = .ok (.invokevirtual 118, 3) := by decide +kernel
theorem dX5_order_9 : decode cX5_order 9 = .ok (.ifCond .ne 6, 3) := by decide +kernel
theorem dX5_order_12 : decode cX5_order 12 = .ok (.bipush (-2), 2) := by decide +kernel
theorem dX5_order_14 : decode cX5_order 14 = .ok (.ireturn, 1) := by decide +kernel
theorem dX5_order_15 : decode cX5_order 15 = .ok (.aload_n 0, 1) := by decide +kernel
theorem dX5_order_16 : decode cX5_order 16 = .ok (.getfield 122, 3) := by decide +kernel
theorem dX5_order_19 : decode cX5_order 19 = .ok (.bipush 32, 2) := by decide +kernel
theorem dX5_order_21 : decode cX5_order 21 = .ok (.if_icmp .ne 6, 3) := by decide +kernel
theorem dX5_order_24 : decode cX5_order 24 = .ok (.bipush (-3), 2) := by decide +kernel
theorem dX5_order_26 : decode cX5_order 26 = .ok (.ireturn, 1) := by decide +kernel
theorem dX5_order_27 : decode cX5_order 27 = .ok (.aload_n 0, 1) := by decide +kernel
theorem dX5_order_28 : decode cX5_order 28 = .ok (.getfield 40, 3) := by decide +kernel
theorem dX5_order_31 : decode cX5_order 31 = .ok (.aload_n 0, 1) := by decide +kernel
theorem dX5_order_32 : decode cX5_order 32 = .ok (.getfield 122, 3) := by decide +kernel
theorem dX5_order_35 : decode cX5_order 35 = .ok (.iload_n 1, 1) := by decide +kernel
theorem dX5_order_36 : decode cX5_order 36 = .ok (.iastore, 1) := by decide +kernel
theorem dX5_order_37 : decode cX5_order 37 = .ok (.aload_n 0, 1) := by decide +kernel
theorem dX5_order_38 : decode cX5_order 38 = .ok (.getfield 43, 3) := by decide +kernel
theorem dX5_order_41 : decode cX5_order 41 = .ok (.aload_n 0, 1) := by decide +kernel
theorem dX5_order_42 : decode cX5_order 42 = .ok (.getfield 122, 3) := by decide +kernel
theorem dX5_order_45 : decode cX5_order 45 = .ok (.iload_n 2, 1) := by decide +kernel
theorem dX5_order_46 : decode cX5_order 46 = .ok (.iastore, 1) := by decide +kernel
theorem dX5_order_47 : decode cX5_order 47 = .ok (.aload_n 0, 1) := by decide +kernel
theorem dX5_order_48 : decode cX5_order 48 = .ok (.getfield 46, 3) := by decide +kernel
theorem dX5_order_51 : decode cX5_order 51 = .ok (.aload_n 0, 1) := by decide +kernel
theorem dX5_order_52 : decode cX5_order 52 = .ok (.getfield 122, 3) := by decide +kernel
theorem dX5_order_55 : decode cX5_order 55 = .ok (.iload_n 3, 1) := by decide +kernel
theorem dX5_order_56 : decode cX5_order 56 = .ok (.iastore, 1) := by decide +kernel
theorem dX5_order_57 : decode cX5_order 57 = .ok (.aload_n 0, 1) := by decide +kernel
theorem dX5_order_58 : decode cX5_order 58 = .ok (.getfield 49, 3) := by decide +kernel
theorem dX5_order_61 : decode cX5_order 61 = .ok (.aload_n 0, 1) := by decide +kernel
theorem dX5_order_62 : decode cX5_order 62 = .ok (.getfield 122, 3) := by decide +kernel
theorem dX5_order_65 : decode cX5_order 65 = .ok (.iload 4, 2) := by decide +kernel
theorem dX5_order_67 : decode cX5_order 67 = .ok (.iastore, 1) := by decide +kernel
theorem dX5_order_68 : decode cX5_order 68 = .ok (.aload_n 0, 1) := by decide +kernel
theorem dX5_order_69 : decode cX5_order 69 = .ok (.dup, 1) := by decide +kernel
theorem dX5_order_70 : decode cX5_order 70 = .ok (.getfield 122, 3) := by decide +kernel
theorem dX5_order_73 : decode cX5_order 73 = .ok (.iconst 1, 1) := by decide +kernel
theorem dX5_order_74 : decode cX5_order 74 = .ok (.iadd, 1) := by decide +kernel
theorem dX5_order_75 : decode cX5_order 75 = .ok (.putfield 122, 3) := by decide +kernel
theorem dX5_order_78 : decode cX5_order 78 = .ok (.aload_n 0, 1) := by decide +kernel
theorem dX5_order_79 : decode cX5_order 79 = .ok (.getfield 122, 3) := by decide +kernel
theorem dX5_order_82 : decode cX5_order 82 = .ok (.ireturn, 1) := by decide +kernel
theorem dX5_carriedOut_0 : decode cX5_carriedOut 0 = .ok (.aload_n 0, 1) := by decide +kernel
theorem dX5_carriedOut_1 : decode cX5_carriedOut 1 = .ok (.getfield 40, 3) := by decide +kernel
theorem dX5_carriedOut_4 : decode cX5_carriedOut 4 = .ok (.iload_n 1, 1) := by decide +kernel
theorem dX5_carriedOut_5 : decode cX5_carriedOut 5 = .ok (.iaload, 1) := by decide +kernel
theorem dX5_carriedOut_6 : decode cX5_carriedOut 6 = .ok (.ifCond .ne 20, 3) := by decide +kernel
theorem dX5_carriedOut_9 : decode cX5_carriedOut 9 = .ok (.aload_n 0, 1) := by decide +kernel
theorem dX5_carriedOut_10 : decode cX5_carriedOut 10 = .ok (.aload_n 0, 1) := by decide +kernel
theorem dX5_carriedOut_11 : decode cX5_carriedOut 11 = .ok (.getfield 43, 3) := by decide +kernel
theorem dX5_carriedOut_14 : decode cX5_carriedOut 14 = .ok (.iload_n 1, 1) := by decide +kernel
theorem dX5_carriedOut_15 : decode cX5_carriedOut 15 = .ok (.iaload, 1) := by decide +kernel
theorem dX5_carriedOut_16 : decode cX5_carriedOut 16 = .ok (.aload_n 0, 1) := by decide +kernel
theorem dX5_carriedOut_17 : decode cX5_carriedOut 17 = .ok (.getfield 49, 3) := by decide +kernel
theorem dX5_carriedOut_20 : decode cX5_carriedOut 20 = .ok (.iload_n 1, 1) := by decide +kernel
theorem dX5_carriedOut_21 : decode cX5_carriedOut 21 = .ok (.iaload, 1) := by decide +kernel
theorem dX5_carriedOut_22 : decode cX5_carriedOut 22 = .ok (.invokevirtual 125, 3) := by decide +kernel
theorem dX5_carriedOut_25 : decode cX5_carriedOut 25 = .ok (.ireturn, 1) := by decide +kernel
theorem dX5_carriedOut_26 : decode cX5_carriedOut 26 = .ok (.aload_n 0, 1) := by decide +kernel
theorem dX5_carriedOut_27 : decode cX5_carriedOut 27 = .ok (.getfield 40, 3) := by decide +kernel
theorem dX5_carriedOut_30 : decode cX5_carriedOut 30 = .ok (.iload_n 1, 1) := by decide +kernel
theorem dX5_carriedOut_31 : decode cX5_carriedOut 31 = .ok (.iaload, 1) := by decide +kernel
theorem dX5_carriedOut_32 : decode cX5_carriedOut 32 = .ok (.iconst 1, 1) := by decide +kernel
theorem dX5_carriedOut_33 : decode cX5_carriedOut 33 = .ok (.if_icmp .ne 20, 3) := by decide +kernel
theorem dX5_carriedOut_36 : decode cX5_carriedOut 36 = .ok (.aload_n 0, 1) := by decide +kernel
theorem dX5_carriedOut_37 : decode cX5_carriedOut 37 = .ok (.aload_n 0, 1) := by decide +kernel
theorem dX5_carriedOut_38 : decode cX5_carriedOut 38 = .ok (.getfield 43, 3) := by decide +kernel
theorem dX5_carriedOut_41 : decode cX5_carriedOut 41 = .ok (.iload_n 1, 1) := by decide +kernel
theorem dX5_carriedOut_42 : decode cX5_carriedOut 42 = .ok (.iaload, 1) := by decide +kernel
theorem dX5_carriedOut_43 : decode cX5_carriedOut 43 = .ok (.aload_n 0, 1) := by decide +kernel
theorem dX5_carriedOut_44 : decode cX5_carriedOut 44 = .ok (.getfield 49, 3) := by decide +kernel
theorem dX5_carriedOut_47 : decode cX5_carriedOut 47 = .ok (.iload_n 1, 1) := by decide +kernel
theorem dX5_carriedOut_48 : decode cX5_carriedOut 48 = .ok (.iaload, 1) := by decide +kernel
theorem dX5_carriedOut_49 : decode cX5_carriedOut 49 = .ok (.invokevirtual 128, 3) := by decide +kernel
theorem dX5_carriedOut_52 : decode cX5_carriedOut 52 = .ok (.ireturn, 1) := by decide +kernel
theorem dX5_carriedOut_53 : decode cX5_carriedOut 53 = .ok (.aload_n 0, 1) := by decide +kernel
theorem dX5_carriedOut_54 : decode cX5_carriedOut 54 = .ok (.getfield 40, 3) := by decide +kernel
theorem dX5_carriedOut_57 : decode cX5_carriedOut 57 = .ok (.iload_n 1, 1) := by decide +kernel
theorem dX5_carriedOut_58 : decode cX5_carriedOut 58 = .ok (.iaload, 1) := by decide +kernel
theorem dX5_carriedOut_59 : decode cX5_carriedOut 59 = .ok (.iconst 2, 1) := by decide +kernel
theorem dX5_carriedOut_60 : decode cX5_carriedOut 60 = .ok (.if_icmp .ne 26, 3) := by decide +kernel
theorem dX5_carriedOut_63 : decode cX5_carriedOut 63 = .ok (.aload_n 0, 1) := by decide +kernel
theorem dX5_carriedOut_64 : decode cX5_carriedOut 64 = .ok (.aload_n 0, 1) := by decide +kernel
theorem dX5_carriedOut_65 : decode cX5_carriedOut 65 = .ok (.getfield 43, 3) := by decide +kernel
theorem dX5_carriedOut_68 : decode cX5_carriedOut 68 = .ok (.iload_n 1, 1) := by decide +kernel
theorem dX5_carriedOut_69 : decode cX5_carriedOut 69 = .ok (.iaload, 1) := by decide +kernel
theorem dX5_carriedOut_70 : decode cX5_carriedOut 70 = .ok (.aload_n 0, 1) := by decide +kernel
theorem dX5_carriedOut_71 : decode cX5_carriedOut 71 = .ok (.getfield 46, 3) := by decide +kernel
theorem dX5_carriedOut_74 : decode cX5_carriedOut 74 = .ok (.iload_n 1, 1) := by decide +kernel
theorem dX5_carriedOut_75 : decode cX5_carriedOut 75 = .ok (.iaload, 1) := by decide +kernel
theorem dX5_carriedOut_76 : decode cX5_carriedOut 76 = .ok (.aload_n 0, 1) := by decide +kernel
theorem dX5_carriedOut_77 : decode cX5_carriedOut 77 = .ok (.getfield 49, 3) := by decide +kernel
theorem dX5_carriedOut_80 : decode cX5_carriedOut 80 = .ok (.iload_n 1, 1) := by decide +kernel
theorem dX5_carriedOut_81 : decode cX5_carriedOut 81 = .ok (.iaload, 1) := by decide +kernel
theorem dX5_carriedOut_82 : decode cX5_carriedOut 82 = .ok (.invokevirtual 131, 3) := by decide +kernel
theorem dX5_carriedOut_85 : decode cX5_carriedOut 85 = .ok (.ireturn, 1) := by decide +kernel
theorem dX5_carriedOut_86 : decode cX5_carriedOut 86 = .ok (.aload_n 0, 1) := by decide +kernel
theorem dX5_carriedOut_87 : decode cX5_carriedOut 87 = .ok (.aload_n 0, 1) := by decide +kernel
theorem dX5_carriedOut_88 : decode cX5_carriedOut 88 = .ok (.getfield 43, 3) := by decide +kernel
theorem dX5_carriedOut_91 : decode cX5_carriedOut 91 = .ok (.iload_n 1, 1) := by decide +kernel
theorem dX5_carriedOut_92 : decode cX5_carriedOut 92 = .ok (.iaload, 1) := by decide +kernel
theorem dX5_carriedOut_93 : decode cX5_carriedOut 93 = .ok (.invokevirtual 135, 3) := by decide +kernel
theorem dX5_carriedOut_96 : decode cX5_carriedOut 96 = .ok (.ireturn, 1) := by decide +kernel
theorem dX5_run_0 : decode cX5_run 0 = .ok (.iconst 0, 1) := by decide +kernel
theorem dX5_run_1 : decode cX5_run 1 = .ok (.istore_n 1, 1) := by decide +kernel
theorem dX5_run_2 : decode cX5_run 2 = .ok (.iconst 1, 1) := by decide +kernel
theorem dX5_run_3 : decode cX5_run 3 = .ok (.istore_n 2, 1) := by decide +kernel
theorem dX5_run_4 : decode cX5_run 4 = .ok (.iconst 0, 1) := by decide +kernel
theorem dX5_run_5 : decode cX5_run 5 = .ok (.istore_n 3, 1) := by decide +kernel
theorem dX5_run_6 : decode cX5_run 6 = .ok (.iload_n 3, 1) := by decide +kernel
theorem dX5_run_7 : decode cX5_run 7 = .ok (.aload_n 0, 1) := by decide +kernel
theorem dX5_run_8 : decode cX5_run 8 = .ok (.getfield 122, 3) := by decide +kernel
theorem dX5_run_11 : decode cX5_run 11 = .ok (.if_icmp .ge 72, 3) := by decide +kernel
theorem dX5_run_14 : decode cX5_run 14 = .ok (.iload_n 2, 1) := by decide +kernel
theorem dX5_run_15 : decode cX5_run 15 = .ok (.ifCond .eq 68, 3) := by decide +kernel
theorem dX5_run_18 : decode cX5_run 18 = .ok (.aload_n 0, 1) := by decide +kernel
theorem dX5_run_19 : decode cX5_run 19 = .ok (.getfield 40, 3) := by decide +kernel
theorem dX5_run_22 : decode cX5_run 22 = .ok (.iload_n 3, 1) := by decide +kernel
theorem dX5_run_23 : decode cX5_run 23 = .ok (.iaload, 1) := by decide +kernel
theorem dX5_run_24 : decode cX5_run 24 = .ok (.iconst 4, 1) := by decide +kernel
theorem dX5_run_25 : decode cX5_run 25 = .ok (.if_icmp .eq 7, 3) := by decide +kernel
theorem dX5_run_28 : decode cX5_run 28 = .ok (.iconst 1, 1) := by decide +kernel
theorem dX5_run_29 : decode cX5_run 29 = .ok (.goto 4, 3) := by decide +kernel
theorem dX5_run_32 : decode cX5_run 32 = .ok (.iconst 0, 1) := by decide +kernel
theorem dX5_run_33 : decode cX5_run 33 = .ok (.istore_n 2, 1) := by decide +kernel
theorem dX5_run_34 : decode cX5_run 34 = .ok (.iload_n 2, 1) := by decide +kernel
theorem dX5_run_35 : decode cX5_run 35 = .ok (.ifCond .eq 30, 3) := by decide +kernel
theorem dX5_run_38 : decode cX5_run 38 = .ok (.aload_n 0, 1) := by decide +kernel
theorem dX5_run_39 : decode cX5_run 39 = .ok (.iload_n 3, 1) := by decide +kernel
theorem dX5_run_40 : decode cX5_run 40 = .ok (.invokevirtual 138, 3) := by decide +kernel
theorem dX5_run_43 : decode cX5_run 43 = .ok (.istore 4, 2) := by decide +kernel
theorem dX5_run_45 : decode cX5_run 45 = .ok (.iload 4, 2) := by decide +kernel
theorem dX5_run_47 : decode cX5_run 47 = .ok (.bipush (-6), 2) := by decide +kernel
theorem dX5_run_49 : decode cX5_run 49 = .ok (.if_icmp .eq 14, 3) := by decide +kernel
theorem dX5_run_52 : decode cX5_run 52 = .ok (.iload 4, 2) := by decide +kernel
theorem dX5_run_54 : decode cX5_run 54 = .ok (.bipush (-7), 2) := by decide +kernel
theorem dX5_run_56 : decode cX5_run 56 = .ok (.if_icmp .eq 7, 3) := by decide +kernel
theorem dX5_run_59 : decode cX5_run 59 = .ok (.iconst 1, 1) := by decide +kernel
theorem dX5_run_60 : decode cX5_run 60 = .ok (.goto 4, 3) := by decide +kernel
theorem dX5_run_63 : decode cX5_run 63 = .ok (.iconst 0, 1) := by decide +kernel
theorem dX5_run_64 : decode cX5_run 64 = .ok (.istore_n 2, 1) := by decide +kernel
theorem dX5_run_65 : decode cX5_run 65 = .ok (.iload_n 1, 1) := by decide +kernel
theorem dX5_run_66 : decode cX5_run 66 = .ok (.iload_n 2, 1) := by decide +kernel
theorem dX5_run_67 : decode cX5_run 67 = .ok (.ifCond .eq 7, 3) := by decide +kernel
theorem dX5_run_70 : decode cX5_run 70 = .ok (.iconst 1, 1) := by decide +kernel
theorem dX5_run_71 : decode cX5_run 71 = .ok (.goto 4, 3) := by decide +kernel
theorem dX5_run_74 : decode cX5_run 74 = .ok (.iconst 0, 1) := by decide +kernel
theorem dX5_run_75 : decode cX5_run 75 = .ok (.iadd, 1) := by decide +kernel
theorem dX5_run_76 : decode cX5_run 76 = .ok (.istore_n 1, 1) := by decide +kernel
theorem dX5_run_77 : decode cX5_run 77 = .ok (.iinc 3 1, 3) := by decide +kernel
theorem dX5_run_80 : decode cX5_run 80 = .ok (.goto (-74), 3) := by decide +kernel
theorem dX5_run_83 : decode cX5_run 83 = .ok (.aload_n 0, 1) := by decide +kernel
theorem dX5_run_84 : decode cX5_run 84 = .ok (.iconst 0, 1) := by decide +kernel
theorem dX5_run_85 : decode cX5_run 85 = .ok (.putfield 122, 3) := by decide +kernel
theorem dX5_run_88 : decode cX5_run 88 = .ok (.iload_n 1, 1) := by decide +kernel
theorem dX5_run_89 : decode cX5_run 89 = .ok (.ireturn, 1) := by decide +kernel
theorem dX5_sum_0 : decode cX5_sum 0 = .ok (.aload_n 0, 1) := by decide +kernel
theorem dX5_sum_1 : decode cX5_sum 1 = .ok (.iload_n 1, 1) := by decide +kernel
theorem dX5_sum_2 : decode cX5_sum 2 = .ok (.invokevirtual 67, 3) := by decide +kernel
theorem dX5_sum_5 : decode cX5_sum 5 = .ok (.ifCond .eq 12, 3) := by decide +kernel
theorem dX5_sum_8 : decode cX5_sum 8 = .ok (.aload_n 0, 1) := by decide +kernel
theorem dX5_sum_9 : decode cX5_sum 9 = .ok (.getfield 22, 3) := by decide +kernel
theorem dX5_sum_12 : decode cX5_sum 12 = .ok (.iload_n 1, 1) := by decide +kernel
theorem dX5_sum_13 : decode cX5_sum 13 = .ok (.iaload, 1) := by decide +kernel
theorem dX5_sum_14 : decode cX5_sum 14 = .ok (.goto 5, 3) := by decide +kernel
theorem dX5_sum_17 : decode cX5_sum 17 = .ok (.bipush (-2), 2) := by decide +kernel
theorem dX5_sum_19 : decode cX5_sum 19 = .ok (.ireturn, 1) := by decide +kernel
theorem dX5_hung_0 : decode cX5_hung 0 = .ok (.aload_n 0, 1) := by decide +kernel
theorem dX5_hung_1 : decode cX5_hung 1 = .ok (.iload_n 1, 1) := by decide +kernel
theorem dX5_hung_2 : decode cX5_hung 2 = .ok (.invokevirtual 67, 3) := by decide +kernel
theorem dX5_hung_5 : decode cX5_hung 5 = .ok (.ifCond .eq 23, 3) := by decide +kernel
theorem dX5_hung_8 : decode cX5_hung 8 = .ok (.iload_n 2, 1) := by decide +kernel
theorem dX5_hung_9 : decode cX5_hung 9 = .ok (.invokestatic 70, 3) := by decide +kernel
theorem dX5_hung_12 : decode cX5_hung 12 = .ok (.ifCond .eq 16, 3) := by decide +kernel
theorem dX5_hung_15 : decode cX5_hung 15 = .ok (.aload_n 0, 1) := by decide +kernel
theorem dX5_hung_16 : decode cX5_hung 16 = .ok (.getfield 31, 3) := by decide +kernel
theorem dX5_hung_19 : decode cX5_hung 19 = .ok (.iconst 2, 1) := by decide +kernel
theorem dX5_hung_20 : decode cX5_hung 20 = .ok (.iload_n 1, 1) := by decide +kernel
theorem dX5_hung_21 : decode cX5_hung 21 = .ok (.imul, 1) := by decide +kernel
theorem dX5_hung_22 : decode cX5_hung 22 = .ok (.iload_n 2, 1) := by decide +kernel
theorem dX5_hung_23 : decode cX5_hung 23 = .ok (.iadd, 1) := by decide +kernel
theorem dX5_hung_24 : decode cX5_hung 24 = .ok (.iaload, 1) := by decide +kernel
theorem dX5_hung_25 : decode cX5_hung 25 = .ok (.goto 5, 3) := by decide +kernel
theorem dX5_hung_28 : decode cX5_hung 28 = .ok (.bipush (-2), 2) := by decide +kernel
theorem dX5_hung_30 : decode cX5_hung 30 = .ok (.ireturn, 1) := by decide +kernel
theorem dX5_wear_0 : decode cX5_wear 0 = .ok (.aload_n 0, 1) := by decide +kernel
theorem dX5_wear_1 : decode cX5_wear 1 = .ok (.iload_n 1, 1) := by decide +kernel
theorem dX5_wear_2 : decode cX5_wear 2 = .ok (.invokevirtual 73, 3) := by decide +kernel
theorem dX5_wear_5 : decode cX5_wear 5 = .ok (.ifCond .eq 12, 3) := by decide +kernel
theorem dX5_wear_8 : decode cX5_wear 8 = .ok (.aload_n 0, 1) := by decide +kernel
theorem dX5_wear_9 : decode cX5_wear 9 = .ok (.getfield 16, 3) := by decide +kernel
theorem dX5_wear_12 : decode cX5_wear 12 = .ok (.iload_n 1, 1) := by decide +kernel
theorem dX5_wear_13 : decode cX5_wear 13 = .ok (.iaload, 1) := by decide +kernel
theorem dX5_wear_14 : decode cX5_wear 14 = .ok (.goto 5, 3) := by decide +kernel
theorem dX5_wear_17 : decode cX5_wear 17 = .ok (.bipush (-2), 2) := by decide +kernel
theorem dX5_wear_19 : decode cX5_wear 19 = .ok (.ireturn, 1) := by decide +kernel
theorem dX5_entries_0 : decode cX5_entries 0 = .ok (.aload_n 0, 1) := by decide +kernel
theorem dX5_entries_1 : decode cX5_entries 1 = .ok (.getfield 60, 3) := by decide +kernel
theorem dX5_entries_4 : decode cX5_entries 4 = .ok (.ireturn, 1) := by decide +kernel
theorem dX5_entry_0 : decode cX5_entry 0 = .ok (.iload_n 1, 1) := by decide +kernel
theorem dX5_entry_1 : decode cX5_entry 1 = .ok (.ifCond .lt 27, 3) := by decide +kernel
theorem dX5_entry_4 : decode cX5_entry 4 = .ok (.iload_n 1, 1) := by decide +kernel
theorem dX5_entry_5 : decode cX5_entry 5 = .ok (.aload_n 0, 1) := by decide +kernel
theorem dX5_entry_6 : decode cX5_entry 6 = .ok (.getfield 60, 3) := by decide +kernel
theorem dX5_entry_9 : decode cX5_entry 9 = .ok (.if_icmp .ge 19, 3) := by decide +kernel
theorem dX5_entry_12 : decode cX5_entry 12 = .ok (.iload_n 1, 1) := by decide +kernel
theorem dX5_entry_13 : decode cX5_entry 13 = .ok (.sipush 400, 3) := by decide +kernel
theorem dX5_entry_16 : decode cX5_entry 16 = .ok (.if_icmp .ge 12, 3) := by decide +kernel
theorem dX5_entry_19 : decode cX5_entry 19 = .ok (.aload_n 0, 1) := by decide +kernel
theorem dX5_entry_20 : decode cX5_entry 20 = .ok (.getfield 37, 3) := by decide +kernel
theorem dX5_entry_23 : decode cX5_entry 23 = .ok (.iload_n 1, 1) := by decide +kernel
theorem dX5_entry_24 : decode cX5_entry 24 = .ok (.iaload, 1) := by decide +kernel
theorem dX5_entry_25 : decode cX5_entry 25 = .ok (.goto 4, 3) := by decide +kernel
theorem dX5_entry_28 : decode cX5_entry 28 = .ok (.iconst (-1), 1) := by decide +kernel
theorem dX5_entry_29 : decode cX5_entry 29 = .ok (.ireturn, 1) := by decide +kernel
theorem dX5_clear_0 : decode cX5_clear 0 = .ok (.aload_n 0, 1) := by decide +kernel
theorem dX5_clear_1 : decode cX5_clear 1 = .ok (.getfield 60, 3) := by decide +kernel
theorem dX5_clear_4 : decode cX5_clear 4 = .ok (.istore_n 1, 1) := by decide +kernel
theorem dX5_clear_5 : decode cX5_clear 5 = .ok (.aload_n 0, 1) := by decide +kernel
theorem dX5_clear_6 : decode cX5_clear 6 = .ok (.iconst 0, 1) := by decide +kernel
theorem dX5_clear_7 : decode cX5_clear 7 = .ok (.putfield 60, 3) := by decide +kernel
theorem dX5_clear_10 : decode cX5_clear 10 = .ok (.iload_n 1, 1) := by decide +kernel
theorem dX5_clear_11 : decode cX5_clear 11 = .ok (.ireturn, 1) := by decide +kernel
theorem dX5_alarms_0 : decode cX5_alarms 0 = .ok (.aload_n 0, 1) := by decide +kernel
theorem dX5_alarms_1 : decode cX5_alarms 1 = .ok (.getfield 89, 3) := by decide +kernel
theorem dX5_alarms_4 : decode cX5_alarms 4 = .ok (.ireturn, 1) := by decide +kernel
theorem dX5_orders_0 : decode cX5_orders 0 = .ok (.aload_n 0, 1) := by decide +kernel
theorem dX5_orders_1 : decode cX5_orders 1 = .ok (.getfield 122, 3) := by decide +kernel
theorem dX5_orders_4 : decode cX5_orders 4 = .ok (.ireturn, 1) := by decide +kernel
end
section
theorem dL_law_0 : decode cL_law 0 = .ok (.new 7, 3) := by decide +kernel
theorem dL_law_3 : decode cL_law 3 = .ok (.dup, 1) := by decide +kernel
theorem dL_law_4 : decode cL_law 4 = .ok (.invokespecial 9, 3) := by decide +kernel
theorem dL_law_7 : decode cL_law 7 = .ok (.astore_n 1, 1) := by decide +kernel
theorem dL_law_8 : decode cL_law 8 = .ok (.new 10, 3) := by decide +kernel
theorem dL_law_11 : decode cL_law 11 = .ok (.dup, 1) := by decide +kernel
theorem dL_law_12 : decode cL_law 12 = .ok (.invokespecial 12, 3) := by decide +kernel
theorem dL_law_15 : decode cL_law 15 = .ok (.astore_n 2, 1) := by decide +kernel
theorem dL_law_16 : decode cL_law 16 = .ok (.iconst 0, 1) := by decide +kernel
theorem dL_law_17 : decode cL_law 17 = .ok (.istore_n 3, 1) := by decide +kernel
theorem dL_law_18 : decode cL_law 18 = .ok (.iload_n 3, 1) := by decide +kernel
theorem dL_law_19 : decode cL_law 19 = .ok (.aload_n 0, 1) := by decide +kernel
theorem dL_law_20 : decode cL_law 20 = .ok (.arraylength, 1) := by decide +kernel
theorem dL_law_21 : decode cL_law 21 = .ok (.iconst 5, 1) := by decide +kernel
theorem dL_law_22 : decode cL_law 22 = .ok (.isub, 1) := by decide +kernel
theorem dL_law_23 : decode cL_law 23 = .ok (.if_icmp .gt 808, 3) := by decide +kernel
theorem dL_law_26 : decode cL_law 26 = .ok (.aload_n 0, 1) := by decide +kernel
theorem dL_law_27 : decode cL_law 27 = .ok (.iload_n 3, 1) := by decide +kernel
theorem dL_law_28 : decode cL_law 28 = .ok (.iaload, 1) := by decide +kernel
theorem dL_law_29 : decode cL_law 29 = .ok (.bipush 31, 2) := by decide +kernel
theorem dL_law_31 : decode cL_law 31 = .ok (.iand, 1) := by decide +kernel
theorem dL_law_32 : decode cL_law 32 = .ok (.tableswitch 793 0 22 #[108, 157, 180, 223, 256, 289, 322, 365, 398, 421, 444, 487, 530, 573, 626, 639, 662, 695, 718, 731, 754, 767, 780], 108) := by decide +kernel
theorem dL_law_140 : decode cL_law 140 = .ok (.aload_n 1, 1) := by decide +kernel
theorem dL_law_141 : decode cL_law 141 = .ok (.aload_n 0, 1) := by decide +kernel
theorem dL_law_142 : decode cL_law 142 = .ok (.iload_n 3, 1) := by decide +kernel
theorem dL_law_143 : decode cL_law 143 = .ok (.iconst 1, 1) := by decide +kernel
theorem dL_law_144 : decode cL_law 144 = .ok (.iadd, 1) := by decide +kernel
theorem dL_law_145 : decode cL_law 145 = .ok (.iaload, 1) := by decide +kernel
theorem dL_law_146 : decode cL_law 146 = .ok (.aload_n 0, 1) := by decide +kernel
theorem dL_law_147 : decode cL_law 147 = .ok (.iload_n 3, 1) := by decide +kernel
theorem dL_law_148 : decode cL_law 148 = .ok (.iconst 2, 1) := by decide +kernel
theorem dL_law_149 : decode cL_law 149 = .ok (.iadd, 1) := by decide +kernel
theorem dL_law_150 : decode cL_law 150 = .ok (.iaload, 1) := by decide +kernel
theorem dL_law_151 : decode cL_law 151 = .ok (.ifCond .eq 7, 3) := by decide +kernel
theorem dL_law_154 : decode cL_law 154 = .ok (.iconst 1, 1) := by decide +kernel
theorem dL_law_155 : decode cL_law 155 = .ok (.goto 4, 3) := by decide +kernel
theorem dL_law_158 : decode cL_law 158 = .ok (.iconst 0, 1) := by decide +kernel
theorem dL_law_159 : decode cL_law 159 = .ok (.invokevirtual 13, 3) := by decide +kernel
theorem dL_law_162 : decode cL_law 162 = .ok (.aload_n 2, 1) := by decide +kernel
theorem dL_law_163 : decode cL_law 163 = .ok (.aload_n 0, 1) := by decide +kernel
theorem dL_law_164 : decode cL_law 164 = .ok (.iload_n 3, 1) := by decide +kernel
theorem dL_law_165 : decode cL_law 165 = .ok (.iconst 1, 1) := by decide +kernel
theorem dL_law_166 : decode cL_law 166 = .ok (.iadd, 1) := by decide +kernel
theorem dL_law_167 : decode cL_law 167 = .ok (.iaload, 1) := by decide +kernel
theorem dL_law_168 : decode cL_law 168 = .ok (.aload_n 0, 1) := by decide +kernel
theorem dL_law_169 : decode cL_law 169 = .ok (.iload_n 3, 1) := by decide +kernel
theorem dL_law_170 : decode cL_law 170 = .ok (.iconst 2, 1) := by decide +kernel
theorem dL_law_171 : decode cL_law 171 = .ok (.iadd, 1) := by decide +kernel
theorem dL_law_172 : decode cL_law 172 = .ok (.iaload, 1) := by decide +kernel
theorem dL_law_173 : decode cL_law 173 = .ok (.ifCond .eq 7, 3) := by decide +kernel
theorem dL_law_176 : decode cL_law 176 = .ok (.iconst 1, 1) := by decide +kernel
theorem dL_law_177 : decode cL_law 177 = .ok (.goto 4, 3) := by decide +kernel
theorem dL_law_180 : decode cL_law 180 = .ok (.iconst 0, 1) := by decide +kernel
theorem dL_law_181 : decode cL_law 181 = .ok (.invokevirtual 17, 3) := by decide +kernel
theorem dL_law_184 : decode cL_law 184 = .ok (.if_icmp .eq 641, 3) := by decide +kernel
theorem dL_law_187 : decode cL_law 187 = .ok (.iconst 0, 1) := by decide +kernel
theorem dL_law_188 : decode cL_law 188 = .ok (.ireturn, 1) := by decide +kernel
theorem dL_law_189 : decode cL_law 189 = .ok (.aload_n 1, 1) := by decide +kernel
theorem dL_law_190 : decode cL_law 190 = .ok (.aload_n 0, 1) := by decide +kernel
theorem dL_law_191 : decode cL_law 191 = .ok (.iload_n 3, 1) := by decide +kernel
theorem dL_law_192 : decode cL_law 192 = .ok (.iconst 1, 1) := by decide +kernel
theorem dL_law_193 : decode cL_law 193 = .ok (.iadd, 1) := by decide +kernel
theorem dL_law_194 : decode cL_law 194 = .ok (.iaload, 1) := by decide +kernel
theorem dL_law_195 : decode cL_law 195 = .ok (.invokevirtual 18, 3) := by decide +kernel
theorem dL_law_198 : decode cL_law 198 = .ok (.aload_n 2, 1) := by decide +kernel
theorem dL_law_199 : decode cL_law 199 = .ok (.aload_n 0, 1) := by decide +kernel
theorem dL_law_200 : decode cL_law 200 = .ok (.iload_n 3, 1) := by decide +kernel
theorem dL_law_201 : decode cL_law 201 = .ok (.iconst 1, 1) := by decide +kernel
theorem dL_law_202 : decode cL_law 202 = .ok (.iadd, 1) := by decide +kernel
theorem dL_law_203 : decode cL_law 203 = .ok (.iaload, 1) := by decide +kernel
theorem dL_law_204 : decode cL_law 204 = .ok (.invokevirtual 22, 3) := by decide +kernel
theorem dL_law_207 : decode cL_law 207 = .ok (.if_icmp .eq 618, 3) := by decide +kernel
theorem dL_law_210 : decode cL_law 210 = .ok (.iconst 0, 1) := by decide +kernel
theorem dL_law_211 : decode cL_law 211 = .ok (.ireturn, 1) := by decide +kernel
theorem dL_law_212 : decode cL_law 212 = .ok (.aload_n 1, 1) := by decide +kernel
theorem dL_law_213 : decode cL_law 213 = .ok (.aload_n 0, 1) := by decide +kernel
theorem dL_law_214 : decode cL_law 214 = .ok (.iload_n 3, 1) := by decide +kernel
theorem dL_law_215 : decode cL_law 215 = .ok (.iconst 1, 1) := by decide +kernel
theorem dL_law_216 : decode cL_law 216 = .ok (.iadd, 1) := by decide +kernel
theorem dL_law_217 : decode cL_law 217 = .ok (.iaload, 1) := by decide +kernel
theorem dL_law_218 : decode cL_law 218 = .ok (.aload_n 0, 1) := by decide +kernel
theorem dL_law_219 : decode cL_law 219 = .ok (.iload_n 3, 1) := by decide +kernel
theorem dL_law_220 : decode cL_law 220 = .ok (.iconst 2, 1) := by decide +kernel
theorem dL_law_221 : decode cL_law 221 = .ok (.iadd, 1) := by decide +kernel
theorem dL_law_222 : decode cL_law 222 = .ok (.iaload, 1) := by decide +kernel
theorem dL_law_223 : decode cL_law 223 = .ok (.aload_n 0, 1) := by decide +kernel
theorem dL_law_224 : decode cL_law 224 = .ok (.iload_n 3, 1) := by decide +kernel
theorem dL_law_225 : decode cL_law 225 = .ok (.iconst 3, 1) := by decide +kernel
theorem dL_law_226 : decode cL_law 226 = .ok (.iadd, 1) := by decide +kernel
theorem dL_law_227 : decode cL_law 227 = .ok (.iaload, 1) := by decide +kernel
theorem dL_law_228 : decode cL_law 228 = .ok (.invokevirtual 23, 3) := by decide +kernel
theorem dL_law_231 : decode cL_law 231 = .ok (.aload_n 2, 1) := by decide +kernel
theorem dL_law_232 : decode cL_law 232 = .ok (.aload_n 0, 1) := by decide +kernel
theorem dL_law_233 : decode cL_law 233 = .ok (.iload_n 3, 1) := by decide +kernel
theorem dL_law_234 : decode cL_law 234 = .ok (.iconst 1, 1) := by decide +kernel
theorem dL_law_235 : decode cL_law 235 = .ok (.iadd, 1) := by decide +kernel
theorem dL_law_236 : decode cL_law 236 = .ok (.iaload, 1) := by decide +kernel
theorem dL_law_237 : decode cL_law 237 = .ok (.aload_n 0, 1) := by decide +kernel
theorem dL_law_238 : decode cL_law 238 = .ok (.iload_n 3, 1) := by decide +kernel
theorem dL_law_239 : decode cL_law 239 = .ok (.iconst 2, 1) := by decide +kernel
theorem dL_law_240 : decode cL_law 240 = .ok (.iadd, 1) := by decide +kernel
theorem dL_law_241 : decode cL_law 241 = .ok (.iaload, 1) := by decide +kernel
theorem dL_law_242 : decode cL_law 242 = .ok (.aload_n 0, 1) := by decide +kernel
theorem dL_law_243 : decode cL_law 243 = .ok (.iload_n 3, 1) := by decide +kernel
theorem dL_law_244 : decode cL_law 244 = .ok (.iconst 3, 1) := by decide +kernel
theorem dL_law_245 : decode cL_law 245 = .ok (.iadd, 1) := by decide +kernel
theorem dL_law_246 : decode cL_law 246 = .ok (.iaload, 1) := by decide +kernel
theorem dL_law_247 : decode cL_law 247 = .ok (.invokevirtual 27, 3) := by decide +kernel
theorem dL_law_250 : decode cL_law 250 = .ok (.if_icmp .eq 575, 3) := by decide +kernel
theorem dL_law_253 : decode cL_law 253 = .ok (.iconst 0, 1) := by decide +kernel
theorem dL_law_254 : decode cL_law 254 = .ok (.ireturn, 1) := by decide +kernel
theorem dL_law_255 : decode cL_law 255 = .ok (.aload_n 1, 1) := by decide +kernel
theorem dL_law_256 : decode cL_law 256 = .ok (.aload_n 0, 1) := by decide +kernel
theorem dL_law_257 : decode cL_law 257 = .ok (.iload_n 3, 1) := by decide +kernel
theorem dL_law_258 : decode cL_law 258 = .ok (.iconst 1, 1) := by decide +kernel
theorem dL_law_259 : decode cL_law 259 = .ok (.iadd, 1) := by decide +kernel
theorem dL_law_260 : decode cL_law 260 = .ok (.iaload, 1) := by decide +kernel
theorem dL_law_261 : decode cL_law 261 = .ok (.aload_n 0, 1) := by decide +kernel
theorem dL_law_262 : decode cL_law 262 = .ok (.iload_n 3, 1) := by decide +kernel
theorem dL_law_263 : decode cL_law 263 = .ok (.iconst 2, 1) := by decide +kernel
theorem dL_law_264 : decode cL_law 264 = .ok (.iadd, 1) := by decide +kernel
theorem dL_law_265 : decode cL_law 265 = .ok (.iaload, 1) := by decide +kernel
theorem dL_law_266 : decode cL_law 266 = .ok (.invokevirtual 28, 3) := by decide +kernel
theorem dL_law_269 : decode cL_law 269 = .ok (.aload_n 2, 1) := by decide +kernel
theorem dL_law_270 : decode cL_law 270 = .ok (.aload_n 0, 1) := by decide +kernel
theorem dL_law_271 : decode cL_law 271 = .ok (.iload_n 3, 1) := by decide +kernel
theorem dL_law_272 : decode cL_law 272 = .ok (.iconst 1, 1) := by decide +kernel
theorem dL_law_273 : decode cL_law 273 = .ok (.iadd, 1) := by decide +kernel
theorem dL_law_274 : decode cL_law 274 = .ok (.iaload, 1) := by decide +kernel
theorem dL_law_275 : decode cL_law 275 = .ok (.aload_n 0, 1) := by decide +kernel
theorem dL_law_276 : decode cL_law 276 = .ok (.iload_n 3, 1) := by decide +kernel
theorem dL_law_277 : decode cL_law 277 = .ok (.iconst 2, 1) := by decide +kernel
theorem dL_law_278 : decode cL_law 278 = .ok (.iadd, 1) := by decide +kernel
theorem dL_law_279 : decode cL_law 279 = .ok (.iaload, 1) := by decide +kernel
theorem dL_law_280 : decode cL_law 280 = .ok (.invokevirtual 32, 3) := by decide +kernel
theorem dL_law_283 : decode cL_law 283 = .ok (.if_icmp .eq 542, 3) := by decide +kernel
theorem dL_law_286 : decode cL_law 286 = .ok (.iconst 0, 1) := by decide +kernel
theorem dL_law_287 : decode cL_law 287 = .ok (.ireturn, 1) := by decide +kernel
theorem dL_law_288 : decode cL_law 288 = .ok (.aload_n 1, 1) := by decide +kernel
theorem dL_law_289 : decode cL_law 289 = .ok (.aload_n 0, 1) := by decide +kernel
theorem dL_law_290 : decode cL_law 290 = .ok (.iload_n 3, 1) := by decide +kernel
theorem dL_law_291 : decode cL_law 291 = .ok (.iconst 1, 1) := by decide +kernel
theorem dL_law_292 : decode cL_law 292 = .ok (.iadd, 1) := by decide +kernel
theorem dL_law_293 : decode cL_law 293 = .ok (.iaload, 1) := by decide +kernel
theorem dL_law_294 : decode cL_law 294 = .ok (.aload_n 0, 1) := by decide +kernel
theorem dL_law_295 : decode cL_law 295 = .ok (.iload_n 3, 1) := by decide +kernel
theorem dL_law_296 : decode cL_law 296 = .ok (.iconst 2, 1) := by decide +kernel
theorem dL_law_297 : decode cL_law 297 = .ok (.iadd, 1) := by decide +kernel
theorem dL_law_298 : decode cL_law 298 = .ok (.iaload, 1) := by decide +kernel
theorem dL_law_299 : decode cL_law 299 = .ok (.invokevirtual 33, 3) := by decide +kernel
theorem dL_law_302 : decode cL_law 302 = .ok (.aload_n 2, 1) := by decide +kernel
theorem dL_law_303 : decode cL_law 303 = .ok (.aload_n 0, 1) := by decide +kernel
theorem dL_law_304 : decode cL_law 304 = .ok (.iload_n 3, 1) := by decide +kernel
theorem dL_law_305 : decode cL_law 305 = .ok (.iconst 1, 1) := by decide +kernel
theorem dL_law_306 : decode cL_law 306 = .ok (.iadd, 1) := by decide +kernel
theorem dL_law_307 : decode cL_law 307 = .ok (.iaload, 1) := by decide +kernel
theorem dL_law_308 : decode cL_law 308 = .ok (.aload_n 0, 1) := by decide +kernel
theorem dL_law_309 : decode cL_law 309 = .ok (.iload_n 3, 1) := by decide +kernel
theorem dL_law_310 : decode cL_law 310 = .ok (.iconst 2, 1) := by decide +kernel
theorem dL_law_311 : decode cL_law 311 = .ok (.iadd, 1) := by decide +kernel
theorem dL_law_312 : decode cL_law 312 = .ok (.iaload, 1) := by decide +kernel
theorem dL_law_313 : decode cL_law 313 = .ok (.invokevirtual 36, 3) := by decide +kernel
theorem dL_law_316 : decode cL_law 316 = .ok (.if_icmp .eq 509, 3) := by decide +kernel
theorem dL_law_319 : decode cL_law 319 = .ok (.iconst 0, 1) := by decide +kernel
theorem dL_law_320 : decode cL_law 320 = .ok (.ireturn, 1) := by decide +kernel
theorem dL_law_321 : decode cL_law 321 = .ok (.aload_n 1, 1) := by decide +kernel
theorem dL_law_322 : decode cL_law 322 = .ok (.aload_n 0, 1) := by decide +kernel
theorem dL_law_323 : decode cL_law 323 = .ok (.iload_n 3, 1) := by decide +kernel
theorem dL_law_324 : decode cL_law 324 = .ok (.iconst 1, 1) := by decide +kernel
theorem dL_law_325 : decode cL_law 325 = .ok (.iadd, 1) := by decide +kernel
theorem dL_law_326 : decode cL_law 326 = .ok (.iaload, 1) := by decide +kernel
theorem dL_law_327 : decode cL_law 327 = .ok (.aload_n 0, 1) := by decide +kernel
theorem dL_law_328 : decode cL_law 328 = .ok (.iload_n 3, 1) := by decide +kernel
theorem dL_law_329 : decode cL_law 329 = .ok (.iconst 2, 1) := by decide +kernel
theorem dL_law_330 : decode cL_law 330 = .ok (.iadd, 1) := by decide +kernel
theorem dL_law_331 : decode cL_law 331 = .ok (.iaload, 1) := by decide +kernel
theorem dL_law_332 : decode cL_law 332 = .ok (.invokevirtual 37, 3) := by decide +kernel
theorem dL_law_335 : decode cL_law 335 = .ok (.aload_n 2, 1) := by decide +kernel
theorem dL_law_336 : decode cL_law 336 = .ok (.aload_n 0, 1) := by decide +kernel
theorem dL_law_337 : decode cL_law 337 = .ok (.iload_n 3, 1) := by decide +kernel
theorem dL_law_338 : decode cL_law 338 = .ok (.iconst 1, 1) := by decide +kernel
theorem dL_law_339 : decode cL_law 339 = .ok (.iadd, 1) := by decide +kernel
theorem dL_law_340 : decode cL_law 340 = .ok (.iaload, 1) := by decide +kernel
theorem dL_law_341 : decode cL_law 341 = .ok (.aload_n 0, 1) := by decide +kernel
theorem dL_law_342 : decode cL_law 342 = .ok (.iload_n 3, 1) := by decide +kernel
theorem dL_law_343 : decode cL_law 343 = .ok (.iconst 2, 1) := by decide +kernel
theorem dL_law_344 : decode cL_law 344 = .ok (.iadd, 1) := by decide +kernel
theorem dL_law_345 : decode cL_law 345 = .ok (.iaload, 1) := by decide +kernel
theorem dL_law_346 : decode cL_law 346 = .ok (.invokevirtual 40, 3) := by decide +kernel
theorem dL_law_349 : decode cL_law 349 = .ok (.if_icmp .eq 476, 3) := by decide +kernel
theorem dL_law_352 : decode cL_law 352 = .ok (.iconst 0, 1) := by decide +kernel
theorem dL_law_353 : decode cL_law 353 = .ok (.ireturn, 1) := by decide +kernel
theorem dL_law_354 : decode cL_law 354 = .ok (.aload_n 1, 1) := by decide +kernel
theorem dL_law_355 : decode cL_law 355 = .ok (.aload_n 0, 1) := by decide +kernel
theorem dL_law_356 : decode cL_law 356 = .ok (.iload_n 3, 1) := by decide +kernel
theorem dL_law_357 : decode cL_law 357 = .ok (.iconst 1, 1) := by decide +kernel
theorem dL_law_358 : decode cL_law 358 = .ok (.iadd, 1) := by decide +kernel
theorem dL_law_359 : decode cL_law 359 = .ok (.iaload, 1) := by decide +kernel
theorem dL_law_360 : decode cL_law 360 = .ok (.aload_n 0, 1) := by decide +kernel
theorem dL_law_361 : decode cL_law 361 = .ok (.iload_n 3, 1) := by decide +kernel
theorem dL_law_362 : decode cL_law 362 = .ok (.iconst 2, 1) := by decide +kernel
theorem dL_law_363 : decode cL_law 363 = .ok (.iadd, 1) := by decide +kernel
theorem dL_law_364 : decode cL_law 364 = .ok (.iaload, 1) := by decide +kernel
theorem dL_law_365 : decode cL_law 365 = .ok (.aload_n 0, 1) := by decide +kernel
theorem dL_law_366 : decode cL_law 366 = .ok (.iload_n 3, 1) := by decide +kernel
theorem dL_law_367 : decode cL_law 367 = .ok (.iconst 3, 1) := by decide +kernel
theorem dL_law_368 : decode cL_law 368 = .ok (.iadd, 1) := by decide +kernel
theorem dL_law_369 : decode cL_law 369 = .ok (.iaload, 1) := by decide +kernel
theorem dL_law_370 : decode cL_law 370 = .ok (.invokevirtual 41, 3) := by decide +kernel
theorem dL_law_373 : decode cL_law 373 = .ok (.aload_n 2, 1) := by decide +kernel
theorem dL_law_374 : decode cL_law 374 = .ok (.aload_n 0, 1) := by decide +kernel
theorem dL_law_375 : decode cL_law 375 = .ok (.iload_n 3, 1) := by decide +kernel
theorem dL_law_376 : decode cL_law 376 = .ok (.iconst 1, 1) := by decide +kernel
theorem dL_law_377 : decode cL_law 377 = .ok (.iadd, 1) := by decide +kernel
theorem dL_law_378 : decode cL_law 378 = .ok (.iaload, 1) := by decide +kernel
theorem dL_law_379 : decode cL_law 379 = .ok (.aload_n 0, 1) := by decide +kernel
theorem dL_law_380 : decode cL_law 380 = .ok (.iload_n 3, 1) := by decide +kernel
theorem dL_law_381 : decode cL_law 381 = .ok (.iconst 2, 1) := by decide +kernel
theorem dL_law_382 : decode cL_law 382 = .ok (.iadd, 1) := by decide +kernel
theorem dL_law_383 : decode cL_law 383 = .ok (.iaload, 1) := by decide +kernel
theorem dL_law_384 : decode cL_law 384 = .ok (.aload_n 0, 1) := by decide +kernel
theorem dL_law_385 : decode cL_law 385 = .ok (.iload_n 3, 1) := by decide +kernel
theorem dL_law_386 : decode cL_law 386 = .ok (.iconst 3, 1) := by decide +kernel
theorem dL_law_387 : decode cL_law 387 = .ok (.iadd, 1) := by decide +kernel
theorem dL_law_388 : decode cL_law 388 = .ok (.iaload, 1) := by decide +kernel
theorem dL_law_389 : decode cL_law 389 = .ok (.invokevirtual 44, 3) := by decide +kernel
theorem dL_law_392 : decode cL_law 392 = .ok (.if_icmp .eq 433, 3) := by decide +kernel
theorem dL_law_395 : decode cL_law 395 = .ok (.iconst 0, 1) := by decide +kernel
theorem dL_law_396 : decode cL_law 396 = .ok (.ireturn, 1) := by decide +kernel
theorem dL_law_397 : decode cL_law 397 = .ok (.aload_n 1, 1) := by decide +kernel
theorem dL_law_398 : decode cL_law 398 = .ok (.aload_n 0, 1) := by decide +kernel
theorem dL_law_399 : decode cL_law 399 = .ok (.iload_n 3, 1) := by decide +kernel
theorem dL_law_400 : decode cL_law 400 = .ok (.iconst 1, 1) := by decide +kernel
theorem dL_law_401 : decode cL_law 401 = .ok (.iadd, 1) := by decide +kernel
theorem dL_law_402 : decode cL_law 402 = .ok (.iaload, 1) := by decide +kernel
theorem dL_law_403 : decode cL_law 403 = .ok (.aload_n 0, 1) := by decide +kernel
theorem dL_law_404 : decode cL_law 404 = .ok (.iload_n 3, 1) := by decide +kernel
theorem dL_law_405 : decode cL_law 405 = .ok (.iconst 2, 1) := by decide +kernel
theorem dL_law_406 : decode cL_law 406 = .ok (.iadd, 1) := by decide +kernel
theorem dL_law_407 : decode cL_law 407 = .ok (.iaload, 1) := by decide +kernel
theorem dL_law_408 : decode cL_law 408 = .ok (.invokevirtual 45, 3) := by decide +kernel
theorem dL_law_411 : decode cL_law 411 = .ok (.aload_n 2, 1) := by decide +kernel
theorem dL_law_412 : decode cL_law 412 = .ok (.aload_n 0, 1) := by decide +kernel
theorem dL_law_413 : decode cL_law 413 = .ok (.iload_n 3, 1) := by decide +kernel
theorem dL_law_414 : decode cL_law 414 = .ok (.iconst 1, 1) := by decide +kernel
theorem dL_law_415 : decode cL_law 415 = .ok (.iadd, 1) := by decide +kernel
theorem dL_law_416 : decode cL_law 416 = .ok (.iaload, 1) := by decide +kernel
theorem dL_law_417 : decode cL_law 417 = .ok (.aload_n 0, 1) := by decide +kernel
theorem dL_law_418 : decode cL_law 418 = .ok (.iload_n 3, 1) := by decide +kernel
theorem dL_law_419 : decode cL_law 419 = .ok (.iconst 2, 1) := by decide +kernel
theorem dL_law_420 : decode cL_law 420 = .ok (.iadd, 1) := by decide +kernel
theorem dL_law_421 : decode cL_law 421 = .ok (.iaload, 1) := by decide +kernel
theorem dL_law_422 : decode cL_law 422 = .ok (.invokevirtual 48, 3) := by decide +kernel
theorem dL_law_425 : decode cL_law 425 = .ok (.if_icmp .eq 400, 3) := by decide +kernel
theorem dL_law_428 : decode cL_law 428 = .ok (.iconst 0, 1) := by decide +kernel
theorem dL_law_429 : decode cL_law 429 = .ok (.ireturn, 1) := by decide +kernel
theorem dL_law_430 : decode cL_law 430 = .ok (.aload_n 1, 1) := by decide +kernel
theorem dL_law_431 : decode cL_law 431 = .ok (.aload_n 0, 1) := by decide +kernel
theorem dL_law_432 : decode cL_law 432 = .ok (.iload_n 3, 1) := by decide +kernel
theorem dL_law_433 : decode cL_law 433 = .ok (.iconst 1, 1) := by decide +kernel
theorem dL_law_434 : decode cL_law 434 = .ok (.iadd, 1) := by decide +kernel
theorem dL_law_435 : decode cL_law 435 = .ok (.iaload, 1) := by decide +kernel
theorem dL_law_436 : decode cL_law 436 = .ok (.invokevirtual 49, 3) := by decide +kernel
theorem dL_law_439 : decode cL_law 439 = .ok (.aload_n 2, 1) := by decide +kernel
theorem dL_law_440 : decode cL_law 440 = .ok (.aload_n 0, 1) := by decide +kernel
theorem dL_law_441 : decode cL_law 441 = .ok (.iload_n 3, 1) := by decide +kernel
theorem dL_law_442 : decode cL_law 442 = .ok (.iconst 1, 1) := by decide +kernel
theorem dL_law_443 : decode cL_law 443 = .ok (.iadd, 1) := by decide +kernel
theorem dL_law_444 : decode cL_law 444 = .ok (.iaload, 1) := by decide +kernel
theorem dL_law_445 : decode cL_law 445 = .ok (.invokevirtual 52, 3) := by decide +kernel
theorem dL_law_448 : decode cL_law 448 = .ok (.if_icmp .eq 377, 3) := by decide +kernel
theorem dL_law_451 : decode cL_law 451 = .ok (.iconst 0, 1) := by decide +kernel
theorem dL_law_452 : decode cL_law 452 = .ok (.ireturn, 1) := by decide +kernel
theorem dL_law_453 : decode cL_law 453 = .ok (.aload_n 1, 1) := by decide +kernel
theorem dL_law_454 : decode cL_law 454 = .ok (.aload_n 0, 1) := by decide +kernel
theorem dL_law_455 : decode cL_law 455 = .ok (.iload_n 3, 1) := by decide +kernel
theorem dL_law_456 : decode cL_law 456 = .ok (.iconst 1, 1) := by decide +kernel
theorem dL_law_457 : decode cL_law 457 = .ok (.iadd, 1) := by decide +kernel
theorem dL_law_458 : decode cL_law 458 = .ok (.iaload, 1) := by decide +kernel
theorem dL_law_459 : decode cL_law 459 = .ok (.invokevirtual 53, 3) := by decide +kernel
theorem dL_law_462 : decode cL_law 462 = .ok (.aload_n 2, 1) := by decide +kernel
theorem dL_law_463 : decode cL_law 463 = .ok (.aload_n 0, 1) := by decide +kernel
end
section
theorem dL_law_464 : decode cL_law 464 = .ok (.iload_n 3, 1) := by decide +kernel
theorem dL_law_465 : decode cL_law 465 = .ok (.iconst 1, 1) := by decide +kernel
theorem dL_law_466 : decode cL_law 466 = .ok (.iadd, 1) := by decide +kernel
theorem dL_law_467 : decode cL_law 467 = .ok (.iaload, 1) := by decide +kernel
theorem dL_law_468 : decode cL_law 468 = .ok (.invokevirtual 56, 3) := by decide +kernel
theorem dL_law_471 : decode cL_law 471 = .ok (.if_icmp .eq 354, 3) := by decide +kernel
theorem dL_law_474 : decode cL_law 474 = .ok (.iconst 0, 1) := by decide +kernel
theorem dL_law_475 : decode cL_law 475 = .ok (.ireturn, 1) := by decide +kernel
theorem dL_law_476 : decode cL_law 476 = .ok (.aload_n 1, 1) := by decide +kernel
theorem dL_law_477 : decode cL_law 477 = .ok (.aload_n 0, 1) := by decide +kernel
theorem dL_law_478 : decode cL_law 478 = .ok (.iload_n 3, 1) := by decide +kernel
theorem dL_law_479 : decode cL_law 479 = .ok (.iconst 1, 1) := by decide +kernel
theorem dL_law_480 : decode cL_law 480 = .ok (.iadd, 1) := by decide +kernel
theorem dL_law_481 : decode cL_law 481 = .ok (.iaload, 1) := by decide +kernel
theorem dL_law_482 : decode cL_law 482 = .ok (.aload_n 0, 1) := by decide +kernel
theorem dL_law_483 : decode cL_law 483 = .ok (.iload_n 3, 1) := by decide +kernel
theorem dL_law_484 : decode cL_law 484 = .ok (.iconst 2, 1) := by decide +kernel
theorem dL_law_485 : decode cL_law 485 = .ok (.iadd, 1) := by decide +kernel
theorem dL_law_486 : decode cL_law 486 = .ok (.iaload, 1) := by decide +kernel
theorem dL_law_487 : decode cL_law 487 = .ok (.aload_n 0, 1) := by decide +kernel
theorem dL_law_488 : decode cL_law 488 = .ok (.iload_n 3, 1) := by decide +kernel
theorem dL_law_489 : decode cL_law 489 = .ok (.iconst 3, 1) := by decide +kernel
theorem dL_law_490 : decode cL_law 490 = .ok (.iadd, 1) := by decide +kernel
theorem dL_law_491 : decode cL_law 491 = .ok (.iaload, 1) := by decide +kernel
theorem dL_law_492 : decode cL_law 492 = .ok (.invokevirtual 57, 3) := by decide +kernel
theorem dL_law_495 : decode cL_law 495 = .ok (.aload_n 2, 1) := by decide +kernel
theorem dL_law_496 : decode cL_law 496 = .ok (.aload_n 0, 1) := by decide +kernel
theorem dL_law_497 : decode cL_law 497 = .ok (.iload_n 3, 1) := by decide +kernel
theorem dL_law_498 : decode cL_law 498 = .ok (.iconst 1, 1) := by decide +kernel
theorem dL_law_499 : decode cL_law 499 = .ok (.iadd, 1) := by decide +kernel
theorem dL_law_500 : decode cL_law 500 = .ok (.iaload, 1) := by decide +kernel
theorem dL_law_501 : decode cL_law 501 = .ok (.aload_n 0, 1) := by decide +kernel
theorem dL_law_502 : decode cL_law 502 = .ok (.iload_n 3, 1) := by decide +kernel
theorem dL_law_503 : decode cL_law 503 = .ok (.iconst 2, 1) := by decide +kernel
theorem dL_law_504 : decode cL_law 504 = .ok (.iadd, 1) := by decide +kernel
theorem dL_law_505 : decode cL_law 505 = .ok (.iaload, 1) := by decide +kernel
theorem dL_law_506 : decode cL_law 506 = .ok (.aload_n 0, 1) := by decide +kernel
theorem dL_law_507 : decode cL_law 507 = .ok (.iload_n 3, 1) := by decide +kernel
theorem dL_law_508 : decode cL_law 508 = .ok (.iconst 3, 1) := by decide +kernel
theorem dL_law_509 : decode cL_law 509 = .ok (.iadd, 1) := by decide +kernel
theorem dL_law_510 : decode cL_law 510 = .ok (.iaload, 1) := by decide +kernel
theorem dL_law_511 : decode cL_law 511 = .ok (.invokevirtual 60, 3) := by decide +kernel
theorem dL_law_514 : decode cL_law 514 = .ok (.if_icmp .eq 311, 3) := by decide +kernel
theorem dL_law_517 : decode cL_law 517 = .ok (.iconst 0, 1) := by decide +kernel
theorem dL_law_518 : decode cL_law 518 = .ok (.ireturn, 1) := by decide +kernel
theorem dL_law_519 : decode cL_law 519 = .ok (.aload_n 1, 1) := by decide +kernel
theorem dL_law_520 : decode cL_law 520 = .ok (.aload_n 0, 1) := by decide +kernel
theorem dL_law_521 : decode cL_law 521 = .ok (.iload_n 3, 1) := by decide +kernel
theorem dL_law_522 : decode cL_law 522 = .ok (.iconst 1, 1) := by decide +kernel
theorem dL_law_523 : decode cL_law 523 = .ok (.iadd, 1) := by decide +kernel
theorem dL_law_524 : decode cL_law 524 = .ok (.iaload, 1) := by decide +kernel
theorem dL_law_525 : decode cL_law 525 = .ok (.aload_n 0, 1) := by decide +kernel
theorem dL_law_526 : decode cL_law 526 = .ok (.iload_n 3, 1) := by decide +kernel
theorem dL_law_527 : decode cL_law 527 = .ok (.iconst 2, 1) := by decide +kernel
theorem dL_law_528 : decode cL_law 528 = .ok (.iadd, 1) := by decide +kernel
theorem dL_law_529 : decode cL_law 529 = .ok (.iaload, 1) := by decide +kernel
theorem dL_law_530 : decode cL_law 530 = .ok (.aload_n 0, 1) := by decide +kernel
theorem dL_law_531 : decode cL_law 531 = .ok (.iload_n 3, 1) := by decide +kernel
theorem dL_law_532 : decode cL_law 532 = .ok (.iconst 3, 1) := by decide +kernel
theorem dL_law_533 : decode cL_law 533 = .ok (.iadd, 1) := by decide +kernel
theorem dL_law_534 : decode cL_law 534 = .ok (.iaload, 1) := by decide +kernel
theorem dL_law_535 : decode cL_law 535 = .ok (.invokevirtual 61, 3) := by decide +kernel
theorem dL_law_538 : decode cL_law 538 = .ok (.aload_n 2, 1) := by decide +kernel
theorem dL_law_539 : decode cL_law 539 = .ok (.aload_n 0, 1) := by decide +kernel
theorem dL_law_540 : decode cL_law 540 = .ok (.iload_n 3, 1) := by decide +kernel
theorem dL_law_541 : decode cL_law 541 = .ok (.iconst 1, 1) := by decide +kernel
theorem dL_law_542 : decode cL_law 542 = .ok (.iadd, 1) := by decide +kernel
theorem dL_law_543 : decode cL_law 543 = .ok (.iaload, 1) := by decide +kernel
theorem dL_law_544 : decode cL_law 544 = .ok (.aload_n 0, 1) := by decide +kernel
theorem dL_law_545 : decode cL_law 545 = .ok (.iload_n 3, 1) := by decide +kernel
theorem dL_law_546 : decode cL_law 546 = .ok (.iconst 2, 1) := by decide +kernel
theorem dL_law_547 : decode cL_law 547 = .ok (.iadd, 1) := by decide +kernel
theorem dL_law_548 : decode cL_law 548 = .ok (.iaload, 1) := by decide +kernel
theorem dL_law_549 : decode cL_law 549 = .ok (.aload_n 0, 1) := by decide +kernel
theorem dL_law_550 : decode cL_law 550 = .ok (.iload_n 3, 1) := by decide +kernel
theorem dL_law_551 : decode cL_law 551 = .ok (.iconst 3, 1) := by decide +kernel
theorem dL_law_552 : decode cL_law 552 = .ok (.iadd, 1) := by decide +kernel
theorem dL_law_553 : decode cL_law 553 = .ok (.iaload, 1) := by decide +kernel
theorem dL_law_554 : decode cL_law 554 = .ok (.invokevirtual 64, 3) := by decide +kernel
theorem dL_law_557 : decode cL_law 557 = .ok (.if_icmp .eq 268, 3) := by decide +kernel
theorem dL_law_560 : decode cL_law 560 = .ok (.iconst 0, 1) := by decide +kernel
theorem dL_law_561 : decode cL_law 561 = .ok (.ireturn, 1) := by decide +kernel
theorem dL_law_562 : decode cL_law 562 = .ok (.aload_n 1, 1) := by decide +kernel
theorem dL_law_563 : decode cL_law 563 = .ok (.aload_n 0, 1) := by decide +kernel
theorem dL_law_564 : decode cL_law 564 = .ok (.iload_n 3, 1) := by decide +kernel
theorem dL_law_565 : decode cL_law 565 = .ok (.iconst 1, 1) := by decide +kernel
theorem dL_law_566 : decode cL_law 566 = .ok (.iadd, 1) := by decide +kernel
theorem dL_law_567 : decode cL_law 567 = .ok (.iaload, 1) := by decide +kernel
theorem dL_law_568 : decode cL_law 568 = .ok (.aload_n 0, 1) := by decide +kernel
theorem dL_law_569 : decode cL_law 569 = .ok (.iload_n 3, 1) := by decide +kernel
theorem dL_law_570 : decode cL_law 570 = .ok (.iconst 2, 1) := by decide +kernel
theorem dL_law_571 : decode cL_law 571 = .ok (.iadd, 1) := by decide +kernel
theorem dL_law_572 : decode cL_law 572 = .ok (.iaload, 1) := by decide +kernel
theorem dL_law_573 : decode cL_law 573 = .ok (.aload_n 0, 1) := by decide +kernel
theorem dL_law_574 : decode cL_law 574 = .ok (.iload_n 3, 1) := by decide +kernel
theorem dL_law_575 : decode cL_law 575 = .ok (.iconst 3, 1) := by decide +kernel
theorem dL_law_576 : decode cL_law 576 = .ok (.iadd, 1) := by decide +kernel
theorem dL_law_577 : decode cL_law 577 = .ok (.iaload, 1) := by decide +kernel
theorem dL_law_578 : decode cL_law 578 = .ok (.invokevirtual 65, 3) := by decide +kernel
theorem dL_law_581 : decode cL_law 581 = .ok (.aload_n 2, 1) := by decide +kernel
theorem dL_law_582 : decode cL_law 582 = .ok (.aload_n 0, 1) := by decide +kernel
theorem dL_law_583 : decode cL_law 583 = .ok (.iload_n 3, 1) := by decide +kernel
theorem dL_law_584 : decode cL_law 584 = .ok (.iconst 1, 1) := by decide +kernel
theorem dL_law_585 : decode cL_law 585 = .ok (.iadd, 1) := by decide +kernel
theorem dL_law_586 : decode cL_law 586 = .ok (.iaload, 1) := by decide +kernel
theorem dL_law_587 : decode cL_law 587 = .ok (.aload_n 0, 1) := by decide +kernel
theorem dL_law_588 : decode cL_law 588 = .ok (.iload_n 3, 1) := by decide +kernel
theorem dL_law_589 : decode cL_law 589 = .ok (.iconst 2, 1) := by decide +kernel
theorem dL_law_590 : decode cL_law 590 = .ok (.iadd, 1) := by decide +kernel
theorem dL_law_591 : decode cL_law 591 = .ok (.iaload, 1) := by decide +kernel
theorem dL_law_592 : decode cL_law 592 = .ok (.aload_n 0, 1) := by decide +kernel
theorem dL_law_593 : decode cL_law 593 = .ok (.iload_n 3, 1) := by decide +kernel
theorem dL_law_594 : decode cL_law 594 = .ok (.iconst 3, 1) := by decide +kernel
theorem dL_law_595 : decode cL_law 595 = .ok (.iadd, 1) := by decide +kernel
theorem dL_law_596 : decode cL_law 596 = .ok (.iaload, 1) := by decide +kernel
theorem dL_law_597 : decode cL_law 597 = .ok (.invokevirtual 68, 3) := by decide +kernel
theorem dL_law_600 : decode cL_law 600 = .ok (.if_icmp .eq 225, 3) := by decide +kernel
theorem dL_law_603 : decode cL_law 603 = .ok (.iconst 0, 1) := by decide +kernel
theorem dL_law_604 : decode cL_law 604 = .ok (.ireturn, 1) := by decide +kernel
theorem dL_law_605 : decode cL_law 605 = .ok (.aload_n 1, 1) := by decide +kernel
theorem dL_law_606 : decode cL_law 606 = .ok (.aload_n 0, 1) := by decide +kernel
theorem dL_law_607 : decode cL_law 607 = .ok (.iload_n 3, 1) := by decide +kernel
theorem dL_law_608 : decode cL_law 608 = .ok (.iconst 1, 1) := by decide +kernel
theorem dL_law_609 : decode cL_law 609 = .ok (.iadd, 1) := by decide +kernel
theorem dL_law_610 : decode cL_law 610 = .ok (.iaload, 1) := by decide +kernel
theorem dL_law_611 : decode cL_law 611 = .ok (.aload_n 0, 1) := by decide +kernel
theorem dL_law_612 : decode cL_law 612 = .ok (.iload_n 3, 1) := by decide +kernel
theorem dL_law_613 : decode cL_law 613 = .ok (.iconst 2, 1) := by decide +kernel
theorem dL_law_614 : decode cL_law 614 = .ok (.iadd, 1) := by decide +kernel
theorem dL_law_615 : decode cL_law 615 = .ok (.iaload, 1) := by decide +kernel
theorem dL_law_616 : decode cL_law 616 = .ok (.aload_n 0, 1) := by decide +kernel
theorem dL_law_617 : decode cL_law 617 = .ok (.iload_n 3, 1) := by decide +kernel
theorem dL_law_618 : decode cL_law 618 = .ok (.iconst 3, 1) := by decide +kernel
theorem dL_law_619 : decode cL_law 619 = .ok (.iadd, 1) := by decide +kernel
theorem dL_law_620 : decode cL_law 620 = .ok (.iaload, 1) := by decide +kernel
theorem dL_law_621 : decode cL_law 621 = .ok (.aload_n 0, 1) := by decide +kernel
theorem dL_law_622 : decode cL_law 622 = .ok (.iload_n 3, 1) := by decide +kernel
theorem dL_law_623 : decode cL_law 623 = .ok (.iconst 4, 1) := by decide +kernel
theorem dL_law_624 : decode cL_law 624 = .ok (.iadd, 1) := by decide +kernel
theorem dL_law_625 : decode cL_law 625 = .ok (.iaload, 1) := by decide +kernel
theorem dL_law_626 : decode cL_law 626 = .ok (.invokevirtual 69, 3) := by decide +kernel
theorem dL_law_629 : decode cL_law 629 = .ok (.aload_n 2, 1) := by decide +kernel
theorem dL_law_630 : decode cL_law 630 = .ok (.aload_n 0, 1) := by decide +kernel
theorem dL_law_631 : decode cL_law 631 = .ok (.iload_n 3, 1) := by decide +kernel
theorem dL_law_632 : decode cL_law 632 = .ok (.iconst 1, 1) := by decide +kernel
theorem dL_law_633 : decode cL_law 633 = .ok (.iadd, 1) := by decide +kernel
theorem dL_law_634 : decode cL_law 634 = .ok (.iaload, 1) := by decide +kernel
theorem dL_law_635 : decode cL_law 635 = .ok (.aload_n 0, 1) := by decide +kernel
theorem dL_law_636 : decode cL_law 636 = .ok (.iload_n 3, 1) := by decide +kernel
theorem dL_law_637 : decode cL_law 637 = .ok (.iconst 2, 1) := by decide +kernel
theorem dL_law_638 : decode cL_law 638 = .ok (.iadd, 1) := by decide +kernel
theorem dL_law_639 : decode cL_law 639 = .ok (.iaload, 1) := by decide +kernel
theorem dL_law_640 : decode cL_law 640 = .ok (.aload_n 0, 1) := by decide +kernel
theorem dL_law_641 : decode cL_law 641 = .ok (.iload_n 3, 1) := by decide +kernel
theorem dL_law_642 : decode cL_law 642 = .ok (.iconst 3, 1) := by decide +kernel
theorem dL_law_643 : decode cL_law 643 = .ok (.iadd, 1) := by decide +kernel
theorem dL_law_644 : decode cL_law 644 = .ok (.iaload, 1) := by decide +kernel
theorem dL_law_645 : decode cL_law 645 = .ok (.aload_n 0, 1) := by decide +kernel
theorem dL_law_646 : decode cL_law 646 = .ok (.iload_n 3, 1) := by decide +kernel
theorem dL_law_647 : decode cL_law 647 = .ok (.iconst 4, 1) := by decide +kernel
theorem dL_law_648 : decode cL_law 648 = .ok (.iadd, 1) := by decide +kernel
theorem dL_law_649 : decode cL_law 649 = .ok (.iaload, 1) := by decide +kernel
theorem dL_law_650 : decode cL_law 650 = .ok (.invokevirtual 73, 3) := by decide +kernel
theorem dL_law_653 : decode cL_law 653 = .ok (.if_icmp .eq 172, 3) := by decide +kernel
theorem dL_law_656 : decode cL_law 656 = .ok (.iconst 0, 1) := by decide +kernel
theorem dL_law_657 : decode cL_law 657 = .ok (.ireturn, 1) := by decide +kernel
theorem dL_law_658 : decode cL_law 658 = .ok (.aload_n 1, 1) := by decide +kernel
theorem dL_law_659 : decode cL_law 659 = .ok (.invokevirtual 74, 3) := by decide +kernel
theorem dL_law_662 : decode cL_law 662 = .ok (.aload_n 2, 1) := by decide +kernel
theorem dL_law_663 : decode cL_law 663 = .ok (.invokevirtual 78, 3) := by decide +kernel
theorem dL_law_666 : decode cL_law 666 = .ok (.if_icmp .eq 159, 3) := by decide +kernel
theorem dL_law_669 : decode cL_law 669 = .ok (.iconst 0, 1) := by decide +kernel
theorem dL_law_670 : decode cL_law 670 = .ok (.ireturn, 1) := by decide +kernel
theorem dL_law_671 : decode cL_law 671 = .ok (.aload_n 1, 1) := by decide +kernel
theorem dL_law_672 : decode cL_law 672 = .ok (.aload_n 0, 1) := by decide +kernel
theorem dL_law_673 : decode cL_law 673 = .ok (.iload_n 3, 1) := by decide +kernel
theorem dL_law_674 : decode cL_law 674 = .ok (.iconst 1, 1) := by decide +kernel
theorem dL_law_675 : decode cL_law 675 = .ok (.iadd, 1) := by decide +kernel
theorem dL_law_676 : decode cL_law 676 = .ok (.iaload, 1) := by decide +kernel
theorem dL_law_677 : decode cL_law 677 = .ok (.invokevirtual 79, 3) := by decide +kernel
theorem dL_law_680 : decode cL_law 680 = .ok (.aload_n 2, 1) := by decide +kernel
theorem dL_law_681 : decode cL_law 681 = .ok (.aload_n 0, 1) := by decide +kernel
theorem dL_law_682 : decode cL_law 682 = .ok (.iload_n 3, 1) := by decide +kernel
theorem dL_law_683 : decode cL_law 683 = .ok (.iconst 1, 1) := by decide +kernel
theorem dL_law_684 : decode cL_law 684 = .ok (.iadd, 1) := by decide +kernel
theorem dL_law_685 : decode cL_law 685 = .ok (.iaload, 1) := by decide +kernel
theorem dL_law_686 : decode cL_law 686 = .ok (.invokevirtual 82, 3) := by decide +kernel
theorem dL_law_689 : decode cL_law 689 = .ok (.if_icmp .eq 136, 3) := by decide +kernel
theorem dL_law_692 : decode cL_law 692 = .ok (.iconst 0, 1) := by decide +kernel
theorem dL_law_693 : decode cL_law 693 = .ok (.ireturn, 1) := by decide +kernel
theorem dL_law_694 : decode cL_law 694 = .ok (.aload_n 1, 1) := by decide +kernel
theorem dL_law_695 : decode cL_law 695 = .ok (.aload_n 0, 1) := by decide +kernel
theorem dL_law_696 : decode cL_law 696 = .ok (.iload_n 3, 1) := by decide +kernel
theorem dL_law_697 : decode cL_law 697 = .ok (.iconst 1, 1) := by decide +kernel
theorem dL_law_698 : decode cL_law 698 = .ok (.iadd, 1) := by decide +kernel
theorem dL_law_699 : decode cL_law 699 = .ok (.iaload, 1) := by decide +kernel
theorem dL_law_700 : decode cL_law 700 = .ok (.aload_n 0, 1) := by decide +kernel
theorem dL_law_701 : decode cL_law 701 = .ok (.iload_n 3, 1) := by decide +kernel
theorem dL_law_702 : decode cL_law 702 = .ok (.iconst 2, 1) := by decide +kernel
theorem dL_law_703 : decode cL_law 703 = .ok (.iadd, 1) := by decide +kernel
theorem dL_law_704 : decode cL_law 704 = .ok (.iaload, 1) := by decide +kernel
theorem dL_law_705 : decode cL_law 705 = .ok (.invokevirtual 83, 3) := by decide +kernel
theorem dL_law_708 : decode cL_law 708 = .ok (.aload_n 2, 1) := by decide +kernel
theorem dL_law_709 : decode cL_law 709 = .ok (.aload_n 0, 1) := by decide +kernel
theorem dL_law_710 : decode cL_law 710 = .ok (.iload_n 3, 1) := by decide +kernel
theorem dL_law_711 : decode cL_law 711 = .ok (.iconst 1, 1) := by decide +kernel
theorem dL_law_712 : decode cL_law 712 = .ok (.iadd, 1) := by decide +kernel
theorem dL_law_713 : decode cL_law 713 = .ok (.iaload, 1) := by decide +kernel
theorem dL_law_714 : decode cL_law 714 = .ok (.aload_n 0, 1) := by decide +kernel
theorem dL_law_715 : decode cL_law 715 = .ok (.iload_n 3, 1) := by decide +kernel
theorem dL_law_716 : decode cL_law 716 = .ok (.iconst 2, 1) := by decide +kernel
theorem dL_law_717 : decode cL_law 717 = .ok (.iadd, 1) := by decide +kernel
theorem dL_law_718 : decode cL_law 718 = .ok (.iaload, 1) := by decide +kernel
theorem dL_law_719 : decode cL_law 719 = .ok (.invokevirtual 86, 3) := by decide +kernel
theorem dL_law_722 : decode cL_law 722 = .ok (.if_icmp .eq 103, 3) := by decide +kernel
theorem dL_law_725 : decode cL_law 725 = .ok (.iconst 0, 1) := by decide +kernel
theorem dL_law_726 : decode cL_law 726 = .ok (.ireturn, 1) := by decide +kernel
theorem dL_law_727 : decode cL_law 727 = .ok (.aload_n 1, 1) := by decide +kernel
theorem dL_law_728 : decode cL_law 728 = .ok (.aload_n 0, 1) := by decide +kernel
theorem dL_law_729 : decode cL_law 729 = .ok (.iload_n 3, 1) := by decide +kernel
theorem dL_law_730 : decode cL_law 730 = .ok (.iconst 1, 1) := by decide +kernel
theorem dL_law_731 : decode cL_law 731 = .ok (.iadd, 1) := by decide +kernel
theorem dL_law_732 : decode cL_law 732 = .ok (.iaload, 1) := by decide +kernel
theorem dL_law_733 : decode cL_law 733 = .ok (.invokevirtual 87, 3) := by decide +kernel
theorem dL_law_736 : decode cL_law 736 = .ok (.aload_n 2, 1) := by decide +kernel
theorem dL_law_737 : decode cL_law 737 = .ok (.aload_n 0, 1) := by decide +kernel
theorem dL_law_738 : decode cL_law 738 = .ok (.iload_n 3, 1) := by decide +kernel
theorem dL_law_739 : decode cL_law 739 = .ok (.iconst 1, 1) := by decide +kernel
theorem dL_law_740 : decode cL_law 740 = .ok (.iadd, 1) := by decide +kernel
theorem dL_law_741 : decode cL_law 741 = .ok (.iaload, 1) := by decide +kernel
theorem dL_law_742 : decode cL_law 742 = .ok (.invokevirtual 90, 3) := by decide +kernel
theorem dL_law_745 : decode cL_law 745 = .ok (.if_icmp .eq 80, 3) := by decide +kernel
theorem dL_law_748 : decode cL_law 748 = .ok (.iconst 0, 1) := by decide +kernel
theorem dL_law_749 : decode cL_law 749 = .ok (.ireturn, 1) := by decide +kernel
theorem dL_law_750 : decode cL_law 750 = .ok (.aload_n 1, 1) := by decide +kernel
theorem dL_law_751 : decode cL_law 751 = .ok (.invokevirtual 91, 3) := by decide +kernel
theorem dL_law_754 : decode cL_law 754 = .ok (.aload_n 2, 1) := by decide +kernel
theorem dL_law_755 : decode cL_law 755 = .ok (.invokevirtual 94, 3) := by decide +kernel
theorem dL_law_758 : decode cL_law 758 = .ok (.if_icmp .eq 67, 3) := by decide +kernel
theorem dL_law_761 : decode cL_law 761 = .ok (.iconst 0, 1) := by decide +kernel
theorem dL_law_762 : decode cL_law 762 = .ok (.ireturn, 1) := by decide +kernel
theorem dL_law_763 : decode cL_law 763 = .ok (.aload_n 1, 1) := by decide +kernel
theorem dL_law_764 : decode cL_law 764 = .ok (.aload_n 0, 1) := by decide +kernel
theorem dL_law_765 : decode cL_law 765 = .ok (.iload_n 3, 1) := by decide +kernel
theorem dL_law_766 : decode cL_law 766 = .ok (.iconst 1, 1) := by decide +kernel
theorem dL_law_767 : decode cL_law 767 = .ok (.iadd, 1) := by decide +kernel
theorem dL_law_768 : decode cL_law 768 = .ok (.iaload, 1) := by decide +kernel
theorem dL_law_769 : decode cL_law 769 = .ok (.invokevirtual 95, 3) := by decide +kernel
theorem dL_law_772 : decode cL_law 772 = .ok (.aload_n 2, 1) := by decide +kernel
theorem dL_law_773 : decode cL_law 773 = .ok (.aload_n 0, 1) := by decide +kernel
theorem dL_law_774 : decode cL_law 774 = .ok (.iload_n 3, 1) := by decide +kernel
theorem dL_law_775 : decode cL_law 775 = .ok (.iconst 1, 1) := by decide +kernel
theorem dL_law_776 : decode cL_law 776 = .ok (.iadd, 1) := by decide +kernel
theorem dL_law_777 : decode cL_law 777 = .ok (.iaload, 1) := by decide +kernel
theorem dL_law_778 : decode cL_law 778 = .ok (.invokevirtual 98, 3) := by decide +kernel
theorem dL_law_781 : decode cL_law 781 = .ok (.if_icmp .eq 44, 3) := by decide +kernel
theorem dL_law_784 : decode cL_law 784 = .ok (.iconst 0, 1) := by decide +kernel
theorem dL_law_785 : decode cL_law 785 = .ok (.ireturn, 1) := by decide +kernel
theorem dL_law_786 : decode cL_law 786 = .ok (.aload_n 1, 1) := by decide +kernel
theorem dL_law_787 : decode cL_law 787 = .ok (.invokevirtual 99, 3) := by decide +kernel
theorem dL_law_790 : decode cL_law 790 = .ok (.aload_n 2, 1) := by decide +kernel
theorem dL_law_791 : decode cL_law 791 = .ok (.invokevirtual 102, 3) := by decide +kernel
theorem dL_law_794 : decode cL_law 794 = .ok (.if_icmp .eq 31, 3) := by decide +kernel
theorem dL_law_797 : decode cL_law 797 = .ok (.iconst 0, 1) := by decide +kernel
theorem dL_law_798 : decode cL_law 798 = .ok (.ireturn, 1) := by decide +kernel
theorem dL_law_799 : decode cL_law 799 = .ok (.aload_n 1, 1) := by decide +kernel
theorem dL_law_800 : decode cL_law 800 = .ok (.invokevirtual 103, 3) := by decide +kernel
theorem dL_law_803 : decode cL_law 803 = .ok (.aload_n 2, 1) := by decide +kernel
theorem dL_law_804 : decode cL_law 804 = .ok (.invokevirtual 106, 3) := by decide +kernel
theorem dL_law_807 : decode cL_law 807 = .ok (.if_icmp .eq 18, 3) := by decide +kernel
theorem dL_law_810 : decode cL_law 810 = .ok (.iconst 0, 1) := by decide +kernel
theorem dL_law_811 : decode cL_law 811 = .ok (.ireturn, 1) := by decide +kernel
theorem dL_law_812 : decode cL_law 812 = .ok (.aload_n 1, 1) := by decide +kernel
theorem dL_law_813 : decode cL_law 813 = .ok (.invokevirtual 107, 3) := by decide +kernel
theorem dL_law_816 : decode cL_law 816 = .ok (.aload_n 2, 1) := by decide +kernel
theorem dL_law_817 : decode cL_law 817 = .ok (.invokevirtual 110, 3) := by decide +kernel
theorem dL_law_820 : decode cL_law 820 = .ok (.if_icmp .eq 5, 3) := by decide +kernel
theorem dL_law_823 : decode cL_law 823 = .ok (.iconst 0, 1) := by decide +kernel
theorem dL_law_824 : decode cL_law 824 = .ok (.ireturn, 1) := by decide +kernel
theorem dL_law_825 : decode cL_law 825 = .ok (.iinc 3 5, 3) := by decide +kernel
theorem dL_law_828 : decode cL_law 828 = .ok (.goto (-810), 3) := by decide +kernel
theorem dL_law_831 : decode cL_law 831 = .ok (.iconst 1, 1) := by decide +kernel
theorem dL_law_832 : decode cL_law 832 = .ok (.ireturn, 1) := by decide +kernel
end
section
-- one list of words for all methods: the tables' words that outlast a call
def TG : List Cond := lw_tbl.filter goodWord
theorem tg_sub : ∀ w ∈ TG, w ∈ lw_tbl := fun w h => (List.mem_filter.mp h).1
theorem tg_in {w : Cond} (i : Nat) (h : lw_tbl[i]? = some w) (hg : goodWord w = true) : w ∈ TG := List.mem_filter.mpr ⟨List.mem_of_getElem? h, hg⟩
theorem tg_good {ws : List Cond} (h : ∀ w ∈ ws, w ∈ TG) : GoodIn TG ws := fun w hw => ⟨h w hw, good_of_word (List.mem_filter.mp (h w hw)).2⟩
/-- a method's words -/
abbrev mw (y : MethodName) (cy : ByteArray) (n : Nat) (ret : Option FieldType) : List Cond := Cond.code y cy n ret :: TG
/-- a contract over a world Wd of a state: one state in, an int and a state out; nothing made, nothing written but in A -/
abbrev Ct (l : Launch) (D : va_G) (cA : ClassId) {S : Type} (Wd : S → va_W) (A : Nat → Prop) (y : MethodName) (cy : ByteArray) (n : Nat) (ret : Option FieldType) (fr lo : Nat) (av : List Value) (σ : S) (post : Int32 → S → Prop) : Prop :=
  Met l y (mw y cy n ret) { frames := fr, cells := 0, slots := 0, locals := lo } (va_Pc av (fun U => va_P D vwCl (Wd σ) U.heap ∧ va_K D vwCl [(cA, .int)] U)) (va_Qi post (fun u t => va_P D vwCl (Wd u) t.heap) A) 0 0 A
/-- the same, void -/
abbrev Cv (l : Launch) (D : va_G) (cA : ClassId) {S : Type} (Wd : S → va_W) (A : Nat → Prop) (y : MethodName) (cy : ByteArray) (n : Nat) (fr lo : Nat) (av : List Value) (σ : S) (post : S → Prop) : Prop :=
  Met l y (mw y cy n none) { frames := fr, cells := 0, slots := 0, locals := lo } (va_Pc av (fun U => va_P D vwCl (Wd σ) U.heap ∧ va_K D vwCl [(cA, .int)] U)) (va_Qv post (fun u t => va_P D vwCl (Wd u) t.heap) A) 0 0 A
/-- what a virtual call's link is, closed -/
def Lk_v (own : String) (idx : Nat) (C : String) (y : MethodName) (cy : ByteArray) (n : Nat) (ret : Option FieldType) (k : Nat) : Prop :=
  Cond.methodLink own idx y ∈ TG ∧ Cond.instanceMethod y ∈ TG ∧ Cond.selects C y y ∈ TG ∧ Cond.initialized C ∈ TG ∧ Cond.code y cy n ret ∈ TG ∧ (y.cls = C ∧ y.cls ≠ "java/lang/invoke/MethodHandle" ∧ y.cls ≠ "java/lang/invoke/VarHandle" ∧ (parseMethodDescriptor y.desc).map (fun d => d.parameters.length) = some k)
/-- of a static one -/
def Lk_s (own : String) (idx : Nat) (y : MethodName) (cy : ByteArray) (n : Nat) (ret : Option FieldType) (k : Nat) : Prop :=
  Cond.methodLink own idx y ∈ TG ∧ Cond.static y ∈ TG ∧ Cond.initialized own ∈ TG ∧ Cond.code y cy n ret ∈ TG ∧ (y.cls = own ∧ y.cls ≠ "java/lang/invoke/MethodHandle" ∧ y.cls ≠ "java/lang/invoke/VarHandle" ∧ (parseMethodDescriptor y.desc).map (fun d => d.parameters.length) = some k)
theorem Lk_v.good {own C : String} {idx n k : Nat} {y : MethodName} {cy : ByteArray} {ret : Option FieldType} (h : Lk_v own idx C y cy n ret k) : GoodIn TG (wsV own idx C y (mw y cy n ret)) := by
  refine tg_good fun w hw => ?_
  obtain ⟨h1, h2, h3, h4, h5, -⟩ := h
  unfold wsV mw at hw
  simp only [List.mem_append, List.mem_cons, List.not_mem_nil, or_false] at hw
  rcases hw with (rfl | rfl | rfl | rfl) | rfl | hw
  · exact h1
  · exact h2
  · exact h3
  · exact h4
  · exact h5
  · exact hw
theorem Lk_s.good {own : String} {idx n k : Nat} {y : MethodName} {cy : ByteArray} {ret : Option FieldType} (h : Lk_s own idx y cy n ret k) : GoodIn TG (wsS own idx y (mw y cy n ret)) := by
  refine tg_good fun w hw => ?_
  obtain ⟨h1, h2, h3, h4, -⟩ := h
  unfold wsS mw at hw
  simp only [List.mem_append, List.mem_cons, List.not_mem_nil, or_false] at hw
  rcases hw with (rfl | rfl | rfl) | rfl | hw
  · exact h1
  · exact h2
  · exact h3
  · exact h4
  · exact hw
section WB
variable {p : Program} {l : Launch} {e : Env} {R : Room} {s : State} {m : MethodId} {args : Array Value} {below : List Frame} {meth : Method} {c : Code} {H : Heap} {locs : List Loc} {cells slots : Nat} {Q : State → Prop}
variable {pc : Nat} {ls : Array Slot} {rest st : List Value} {A0 A1 A : Nat → Prop} {H0 : Heap} {D : va_G} {cA : ClassId} {cc cy : ByteArray} {y : MethodName} {n nL k idx fr lo : Nat} {ret : Option FieldType} {own C : String} {b : Addr} {As : List Value}
theorem hts_tg (hts : ∀ w ∈ TG, w.before args s = true) {w : Cond} (h : w ∈ TG) : w.before args s = true := hts w h
theorem blind_w {S : Type} {Wd : S → va_W} {av : List Value} {σ : S} : FrameBlind (va_Pc av (fun U => va_P D vwCl (Wd σ) U.heap ∧ va_K D vwCl [(cA, .int)] U)) := by
  intro a U g mk q
  obtain ⟨q0, qP, qK⟩ := q
  exact ⟨q0, qP, va_K.moved (u := U) (U := U.calling g mk a) (Vm.Alike.refl U.vm) qK⟩
/-- a virtual call, an int comes back -/
theorem cl_i {S : Type} {Wd : S → va_W} {σ : S} {post : Int32 → S → Prop} (hM : Ct l D cA Wd A1 y cy n ret fr lo (.ref b :: As) σ post) (S0 : CallFix p m c cc nL s args TG own) (hK : va_K D vwCl [(cA, .int)] s) (hP : va_P D vwCl (Wd σ) H) (hS : va_S A0 H0 H locs) (lk : Lk_v own idx C y cy n ret k)
    (hR : fr + 1 ≤ R.frames ∧ 8 + (n + 11) + lo ≤ R.locals) (hf : cells ≤ R.cells ∧ slots ≤ R.slots) (q0 : Nat) {ci : Nat} {fs : List Value} {T : u_T} {N : Nat} (hq : (Wd σ)[q0]? = some (b, .inr (ci, fs))) (hc : vwCl[ci]? = some (C, T, N))
    (hn : As.length = k) (hl : ls.size = nL) (hst : st = As.reverse ++ .ref b :: rest) (hW : (rest.map fun v => v.category).sum ≤ 8) (hA : ∀ q, A1 q → A0 q) (hdg : decode cc pc = .ok (.invokevirtual idx, 3))
    (kk : ∀ (r : Int32) (u : S) (H1 : Heap) (locs1 : List Loc), post r u → va_P D vwCl (Wd u) H1 → va_S A0 H0 H1 locs1 → (∀ q : Nat, q < H.size → ¬ A1 q → H1[q]? = H[q]?) → W p l e R s m args below meth c H1 locs1 cells slots Q (F0 m (pc + 3) ls (.int r :: rest))) : W p l e R s m args below meth c H locs cells slots Q (F0 m pc ls st) := by
  refine va_calli (va_runV (As := As) (rest := rest) S0 hM (cwV k S0.2.2.2.2 lk.good rfl rfl rfl lk.2.2.2.2.2 hR) ⟨blind_w, va_recv hK hP hc hq, fun U hU hWm => ⟨rfl, by rw [hU]; exact hP, va_K.moved hWm.alike hK⟩⟩ rfl hn hl hst (lv_room hW) hdg hf) hS (fun q _ h => hA q h) hA (fun r u t H1 locs1 ht hvm hw hB hz1 hk1 hS1 => ?_)
  subst ht
  exact kk r u _ _ hw hB hS1 hk1
/-- a virtual call, nothing comes back -/
theorem cl_v {S : Type} {Wd : S → va_W} {σ : S} {post : S → Prop} (hM : Cv l D cA Wd A1 y cy n fr lo (.ref b :: As) σ post) (S0 : CallFix p m c cc nL s args TG own) (hK : va_K D vwCl [(cA, .int)] s) (hP : va_P D vwCl (Wd σ) H) (hS : va_S A0 H0 H locs) (lk : Lk_v own idx C y cy n none k)
    (hR : fr + 1 ≤ R.frames ∧ 8 + (n + 11) + lo ≤ R.locals) (hf : cells ≤ R.cells ∧ slots ≤ R.slots) (q0 : Nat) {ci : Nat} {fs : List Value} {T : u_T} {N : Nat} (hq : (Wd σ)[q0]? = some (b, .inr (ci, fs))) (hc : vwCl[ci]? = some (C, T, N))
    (hn : As.length = k) (hl : ls.size = nL) (hst : st = As.reverse ++ .ref b :: rest) (hW : (rest.map fun v => v.category).sum ≤ 8) (hA : ∀ q, A1 q → A0 q) (hdg : decode cc pc = .ok (.invokevirtual idx, 3))
    (kk : ∀ (u : S) (H1 : Heap) (locs1 : List Loc), post u → va_P D vwCl (Wd u) H1 → va_S A0 H0 H1 locs1 → (∀ q : Nat, q < H.size → ¬ A1 q → H1[q]? = H[q]?) → W p l e R s m args below meth c H1 locs1 cells slots Q (F0 m (pc + 3) ls rest)) : W p l e R s m args below meth c H locs cells slots Q (F0 m pc ls st) := by
  refine va_callv (va_runV (As := As) (rest := rest) S0 hM (cwV k S0.2.2.2.2 lk.good rfl rfl rfl lk.2.2.2.2.2 hR) ⟨blind_w, va_recv hK hP hc hq, fun U hU hWm => ⟨rfl, by rw [hU]; exact hP, va_K.moved hWm.alike hK⟩⟩ rfl hn hl hst (lv_room hW) hdg hf) hS (fun q _ h => hA q h) hA (fun u t H1 locs1 ht hvm hw hB hz1 hk1 hS1 => ?_)
  subst ht
  exact kk u _ _ hw hB hS1 hk1
/-- a static call, an int comes back -/
theorem cl_s {S : Type} {Wd : S → va_W} {σ : S} {post : Int32 → S → Prop} (hM : Ct l D cA Wd A1 y cy n ret fr lo As σ post) (S0 : CallFix p m c cc nL s args TG own) (hK : va_K D vwCl [(cA, .int)] s) (hP : va_P D vwCl (Wd σ) H) (hS : va_S A0 H0 H locs) (lk : Lk_s own idx y cy n ret k)
    (hR : fr + 1 ≤ R.frames ∧ 8 + (n + 11) + lo ≤ R.locals) (hf : cells ≤ R.cells ∧ slots ≤ R.slots)
    (hn : As.length = k) (hl : ls.size = nL) (hst : st = As.reverse ++ rest) (hW : (rest.map fun v => v.category).sum ≤ 8) (hA : ∀ q, A1 q → A0 q) (hdg : decode cc pc = .ok (.invokestatic idx, 3))
    (kk : ∀ (r : Int32) (u : S) (H1 : Heap) (locs1 : List Loc), post r u → va_P D vwCl (Wd u) H1 → va_S A0 H0 H1 locs1 → W p l e R s m args below meth c H1 locs1 cells slots Q (F0 m (pc + 3) ls (.int r :: rest))) : W p l e R s m args below meth c H locs cells slots Q (F0 m pc ls st) := by
  refine va_calli (va_runS (As := As) (rest := rest) S0 hM (cwS k S0.2.2.2.2 lk.good rfl rfl rfl lk.2.2.2.2 hR) ⟨blind_w, fun U hU hWm => ⟨rfl, by rw [hU]; exact hP, va_K.moved hWm.alike hK⟩⟩ rfl hn hl hst (lv_room hW) hdg hf) hS (fun q _ h => hA q h) hA (fun r u t H1 locs1 ht hvm hw hB hz1 hk1 hS1 => ?_)
  subst ht
  exact kk r u _ _ hw hB hS1
/-- the top of the stack by another name -/
theorem tp_i {x z : Int32} (h : x = z) (kk : W p l e R s m args below meth c H locs cells slots Q (F0 m pc ls (.int z :: rest))) : W p l e R s m args below meth c H locs cells slots Q (F0 m pc ls (.int x :: rest)) := by rw [h]; exact kk
/-- a place of an int array, by a number -/
theorem ar_g {ws : va_W} {a : Nat} (hx : p.tables.exec = Jvm.exec) (hb : c.code = cc) (hK : va_K D vwCl [(cA, .int)] s) (hP : va_P D vwCl ws H) (q0 : Nat) {N : Nat} {f : Nat → Int32} (ha : ws[q0]? = some (a, .inl (cA, N, .inl f))) {j : Nat} (hj : j < N) (hN : N < 1000) (hdg : decode cc pc = .ok (.iaload, 1))
    (kk : W p l e R s m args below meth c H locs cells slots Q (F0 m (pc + 1) ls (.int (f j) :: rest))) : W p l e R s m args below meth c H locs cells slots Q (F0 m pc ls (.int (nI j) :: .ref a :: rest)) := by
  refine va_iald hx hb hK hP q0 0 ha rfl (vp_in_nI hj (by omega)) hdg ?_
  rw [nI_clamp (by omega : j < 2 ^ 31)]
  exact kk
theorem ar_p {ws : va_W} {a : Nat} (hx : p.tables.exec = Jvm.exec) (hb : c.code = cc) (hK : va_K D vwCl [(cA, .int)] s) (hP : va_P D vwCl ws H) (hD : va_D A ws) (hS : va_S A H0 H locs) (q0 : Nat) {N : Nat} {f : Nat → Int32} (ha : ws[q0]? = some (a, .inl (cA, N, .inl f))) {j : Nat} {x : Int32} (hj : j < N) (hN : N < 1000) (hdg : decode cc pc = .ok (.iastore, 1))
    (kk : ∀ (H1 : Heap) (locs1 : List Loc), va_P D vwCl (ws.set q0 (a, .inl (cA, N, .inl (upd f j x)))) H1 → va_S A H0 H1 locs1 → W p l e R s m args below meth c H1 locs1 cells slots Q (F0 m (pc + 1) ls rest)) : W p l e R s m args below meth c H locs cells slots Q (F0 m pc ls (.int x :: .int (nI j) :: .ref a :: rest)) := by
  refine va_iast hx hb hK hP hD hS q0 0 ha rfl (vp_in_nI hj (by omega)) hdg (fun H1 locs1 h1 _ h3 => ?_)
  rw [nI_clamp (by omega : j < 2 ^ 31)] at h1
  exact kk H1 locs1 h1 h3
/-- a contract out of a walk from the method's entry -/
theorem Ct.of {S : Type} {Wd : S → va_W} {σ : S} {post : Int32 → S → Prop} {av : List Value} (hy : plainName y.cls = true) (hn : (lg_sl av).length ≤ n)
    (body : ∀ (p : Program) (e : Env) (s : State) (m : MethodId) (below : List Frame) (meth : Method) (c : Code) (ls : Array Slot), CallFix p m c cy n s av.toArray TG y.cls → meth.sig.returnType = ret → meth.locks = false → va_K D vwCl [(cA, .int)] s → va_P D vwCl (Wd σ) s.heap → va_S A s.heap s.heap [] → lv_has ls n (lv_args 0 av) →
      W p l e { frames := fr, cells := 0, slots := 0, locals := lo } s m av.toArray below meth c s.heap [] 0 0 (MQ below (va_Qi post (fun u t => va_P D vwCl (Wd u) t.heap) A) av.toArray s 0 0 A) (F0 m 0 ls [])) : Ct l D cA Wd A y cy n ret fr lo av σ post := by
  refine Met.ofW (cc := cy) (maxL := n) (ret := ret) hy rfl ?_
  intro p e s m args below meth c s₁ B hml hv
  obtain ⟨rfl, hP, hK⟩ := hv
  have hts := atoms_spec (ws := mw y cy n ret) B.pre
  have hown : s.vm.findClass y.cls = some m.cls := findClass_of_methodNamed B.named
  have hl := lv_entry av (n := n) hn
  rw [lg_entry_eq]
  exact body p e s m below meth c _ ⟨B.exec, B.bytes, hml, hown, fun w h => hts w (List.mem_cons_of_mem _ h)⟩ B.returns B.notSynchronized hK hP va_S.rf hl
theorem Cv.of {S : Type} {Wd : S → va_W} {σ : S} {post : S → Prop} {av : List Value} (hy : plainName y.cls = true) (hn : (lg_sl av).length ≤ n)
    (body : ∀ (p : Program) (e : Env) (s : State) (m : MethodId) (below : List Frame) (meth : Method) (c : Code) (ls : Array Slot), CallFix p m c cy n s av.toArray TG y.cls → meth.sig.returnType = none → meth.locks = false → va_K D vwCl [(cA, .int)] s → va_P D vwCl (Wd σ) s.heap → va_S A s.heap s.heap [] → lv_has ls n (lv_args 0 av) →
      W p l e { frames := fr, cells := 0, slots := 0, locals := lo } s m av.toArray below meth c s.heap [] 0 0 (MQ below (va_Qv post (fun u t => va_P D vwCl (Wd u) t.heap) A) av.toArray s 0 0 A) (F0 m 0 ls [])) : Cv l D cA Wd A y cy n fr lo av σ post := by
  refine Met.ofW (cc := cy) (maxL := n) (ret := none) hy rfl ?_
  intro p e s m args below meth c s₁ B hml hv
  obtain ⟨rfl, hP, hK⟩ := hv
  have hts := atoms_spec (ws := mw y cy n none) B.pre
  have hown : s.vm.findClass y.cls = some m.cls := findClass_of_methodNamed B.named
  have hl := lv_entry av (n := n) hn
  rw [lg_entry_eq]
  exact body p e s m below meth c _ ⟨B.exec, B.bytes, hml, hown, fun w h => hts w (List.mem_cons_of_mem _ h)⟩ B.returns B.notSynchronized hK hP va_S.rf hl
/-- the ends -/
theorem rt_i {S : Type} {Wd : S → va_W} {u : S} {post : Int32 → S → Prop} {v : Int32} (hx : p.tables.exec = Jvm.exec) (hb : c.code = cc) (hr : meth.sig.returnType = some .int) (hlocks : meth.locks = false) (hS : va_S A s.heap H locs) (hP : va_P D vwCl (Wd u) H) (hw : post v u) (hdg : decode cc pc = .ok (.ireturn, 1)) :
    W p l e R s m args below meth c H locs cells slots (MQ below (va_Qi post (fun u t => va_P D vwCl (Wd u) t.heap) A) args s cells slots A) (F0 m pc ls [.int v]) :=
  W.iret (v := v) hx hb hr (fun t ht hW => ⟨⟨v, u, rfl, hw, by show va_P D vwCl (Wd u) t.heap; rw [ht]; exact hP⟩, hS.F ht⟩) hS.2.2 hdg hlocks
theorem rt_z {S : Type} {Wd : S → va_W} {u : S} {post : Int32 → S → Prop} {v : Int32} (hx : p.tables.exec = Jvm.exec) (hb : c.code = cc) (hr : meth.sig.returnType = some .boolean) (hlocks : meth.locks = false) (hn : narrow .boolean (.int v) = .int v) (hS : va_S A s.heap H locs) (hP : va_P D vwCl (Wd u) H) (hw : post v u) (hdg : decode cc pc = .ok (.ireturn, 1)) :
    W p l e R s m args below meth c H locs cells slots (MQ below (va_Qi post (fun u t => va_P D vwCl (Wd u) t.heap) A) args s cells slots A) (F0 m pc ls [.int v]) :=
  W.zret (v := v) hx hb hr hn (fun t ht hW => ⟨⟨v, u, rfl, hw, by show va_P D vwCl (Wd u) t.heap; rw [ht]; exact hP⟩, hS.F ht⟩) hS.2.2 hdg hlocks
theorem rt_v {S : Type} {Wd : S → va_W} {u : S} {post : S → Prop} (hx : p.tables.exec = Jvm.exec) (hb : c.code = cc) (hr : meth.sig.returnType = none) (hlocks : meth.locks = false) (hS : va_S A s.heap H locs) (hP : va_P D vwCl (Wd u) H) (hw : post u) (hdg : decode cc pc = .ok (.return_, 1)) :
    W p l e R s m args below meth c H locs cells slots (MQ below (va_Qv post (fun u t => va_P D vwCl (Wd u) t.heap) A) args s cells slots A) (F0 m pc ls []) :=
  W.vret hx hb hr (fun t ht hW => ⟨⟨u, rfl, hw, by show va_P D vwCl (Wd u) t.heap; rw [ht]; exact hP⟩, hS.F ht⟩) hS.2.2 hdg hlocks
end WB
end
section
-- words by their places (printed by a program of mine)
set_option maxRecDepth 20000 in
theorem ki_L : Cond.initialized RL ∈ TG := tg_in 23 rfl rfl
set_option maxRecDepth 20000 in
theorem ki_X4 : Cond.initialized RX4 ∈ TG := tg_in 24 rfl rfl
set_option maxRecDepth 20000 in
theorem ki_X1 : Cond.initialized RX1 ∈ TG := tg_in 25 rfl rfl
set_option maxRecDepth 20000 in
theorem ki_X3 : Cond.initialized RX3 ∈ TG := tg_in 26 rfl rfl
set_option maxRecDepth 20000 in
theorem ki_X0 : Cond.initialized RX0 ∈ TG := tg_in 27 rfl rfl
set_option maxRecDepth 20000 in
theorem ki_X2 : Cond.initialized RX2 ∈ TG := tg_in 28 rfl rfl
set_option maxRecDepth 20000 in
theorem ki_X5 : Cond.initialized RX5 ∈ TG := tg_in 29 rfl rfl
set_option maxRecDepth 20000 in
theorem ki_J9 : Cond.initialized RJ9 ∈ TG := tg_in 30 rfl rfl
set_option maxRecDepth 20000 in
theorem kl_L_7 : Cond.classLink RL 7 RX4 ∈ TG := tg_in 31 rfl rfl
set_option maxRecDepth 20000 in
theorem kn_X4 : Cond.instantiable RX4 7 ∈ TG := tg_in 32 rfl rfl
set_option maxRecDepth 20000 in
theorem km_X4 : Cond.instanceMethod yX4_init ∈ TG := tg_in 34 rfl rfl
set_option maxRecDepth 20000 in
theorem km_obj : Cond.instanceMethod objectInit ∈ TG := tg_in 37 rfl rfl
set_option maxRecDepth 20000 in
theorem kl_X4_7 : Cond.classLink RX4 7 RX1 ∈ TG := tg_in 39 rfl rfl
set_option maxRecDepth 20000 in
theorem kn_X1 : Cond.instantiable RX1 5 ∈ TG := tg_in 40 rfl rfl
set_option maxRecDepth 20000 in
theorem km_X1 : Cond.instanceMethod yX1_init ∈ TG := tg_in 42 rfl rfl
set_option maxRecDepth 20000 in
theorem kf_X1_9 : Cond.fieldLink RX1 9 "VaultHands$Keys" "teeth" "[I" ∈ TG := tg_in 45 rfl rfl
set_option maxRecDepth 20000 in
theorem kf_X4_138 : Cond.fieldLink RX4 138 "VaultHands$Keys" "teeth" "[I" ∈ TG := tg_in 46 rfl rfl
set_option maxRecDepth 20000 in
theorem kf_X1_15 : Cond.fieldLink RX1 15 "VaultHands$Keys" "strains" "[I" ∈ TG := tg_in 47 rfl rfl
set_option maxRecDepth 20000 in
theorem kf_X4_141 : Cond.fieldLink RX4 141 "VaultHands$Keys" "strains" "[I" ∈ TG := tg_in 48 rfl rfl
set_option maxRecDepth 20000 in
theorem kf_X1_18 : Cond.fieldLink RX1 18 "VaultHands$Keys" "wears" "[I" ∈ TG := tg_in 49 rfl rfl
set_option maxRecDepth 20000 in
theorem kf_X4_100 : Cond.fieldLink RX4 100 "VaultHands$Keys" "wears" "[I" ∈ TG := tg_in 50 rfl rfl
set_option maxRecDepth 20000 in
theorem kf_X1_21 : Cond.fieldLink RX1 21 "VaultHands$Keys" "held" "[I" ∈ TG := tg_in 51 rfl rfl
set_option maxRecDepth 20000 in
theorem kf_X4_135 : Cond.fieldLink RX4 135 "VaultHands$Keys" "held" "[I" ∈ TG := tg_in 52 rfl rfl
set_option maxRecDepth 20000 in
theorem kf_X1_24 : Cond.fieldLink RX1 24 "VaultHands$Keys" "count" "I" ∈ TG := tg_in 53 rfl rfl
set_option maxRecDepth 20000 in
theorem ka_int : Cond.arrayClass .int ∈ TG := tg_in 65 rfl rfl
set_option maxRecDepth 20000 in
theorem kl_X4_16 : Cond.classLink RX4 16 RX3 ∈ TG := tg_in 66 rfl rfl
set_option maxRecDepth 20000 in
theorem kn_X3 : Cond.instantiable RX3 6 ∈ TG := tg_in 67 rfl rfl
set_option maxRecDepth 20000 in
theorem km_X3 : Cond.instanceMethod yX3_init ∈ TG := tg_in 69 rfl rfl
set_option maxRecDepth 20000 in
theorem kf_X3_9 : Cond.fieldLink RX3 9 "VaultHands$Vaults" "limits" "[I" ∈ TG := tg_in 72 rfl rfl
set_option maxRecDepth 20000 in
theorem kf_X3_15 : Cond.fieldLink RX3 15 "VaultHands$Vaults" "sums" "[I" ∈ TG := tg_in 73 rfl rfl
set_option maxRecDepth 20000 in
theorem kf_X4_91 : Cond.fieldLink RX4 91 "VaultHands$Vaults" "sums" "[I" ∈ TG := tg_in 74 rfl rfl
set_option maxRecDepth 20000 in
theorem kf_X3_18 : Cond.fieldLink RX3 18 "VaultHands$Vaults" "nexts" "[I" ∈ TG := tg_in 75 rfl rfl
set_option maxRecDepth 20000 in
theorem kf_X4_76 : Cond.fieldLink RX4 76 "VaultHands$Vaults" "nexts" "[I" ∈ TG := tg_in 76 rfl rfl
set_option maxRecDepth 20000 in
theorem kf_X3_21 : Cond.fieldLink RX3 21 "VaultHands$Vaults" "lefts" "[I" ∈ TG := tg_in 77 rfl rfl
set_option maxRecDepth 20000 in
theorem kf_X3_24 : Cond.fieldLink RX3 24 "VaultHands$Vaults" "rights" "[I" ∈ TG := tg_in 78 rfl rfl
set_option maxRecDepth 20000 in
theorem kf_X3_27 : Cond.fieldLink RX3 27 "VaultHands$Vaults" "count" "I" ∈ TG := tg_in 79 rfl rfl
set_option maxRecDepth 20000 in
theorem kf_X4_169 : Cond.fieldLink RX4 169 "VaultHands$Vaults" "count" "I" ∈ TG := tg_in 80 rfl rfl
set_option maxRecDepth 20000 in
theorem kl_X4_23 : Cond.classLink RX4 23 RX0 ∈ TG := tg_in 94 rfl rfl
set_option maxRecDepth 20000 in
theorem kn_X0 : Cond.instantiable RX0 2 ∈ TG := tg_in 95 rfl rfl
set_option maxRecDepth 20000 in
theorem km_X0 : Cond.instanceMethod yX0_init ∈ TG := tg_in 97 rfl rfl
set_option maxRecDepth 20000 in
theorem kf_X0_9 : Cond.fieldLink RX0 9 "VaultHands$Book" "kept" "[I" ∈ TG := tg_in 100 rfl rfl
set_option maxRecDepth 20000 in
theorem kf_X0_15 : Cond.fieldLink RX0 15 "VaultHands$Book" "count" "I" ∈ TG := tg_in 101 rfl rfl
set_option maxRecDepth 20000 in
theorem kf_X4_127 : Cond.fieldLink RX4 127 "VaultHands$Book" "count" "I" ∈ TG := tg_in 102 rfl rfl
set_option maxRecDepth 20000 in
theorem kl_X4_30 : Cond.classLink RX4 30 RX2 ∈ TG := tg_in 108 rfl rfl
set_option maxRecDepth 20000 in
theorem kn_X2 : Cond.instantiable RX2 5 ∈ TG := tg_in 109 rfl rfl
set_option maxRecDepth 20000 in
theorem km_X2 : Cond.instanceMethod yX2_init ∈ TG := tg_in 111 rfl rfl
set_option maxRecDepth 20000 in
theorem kf_X2_9 : Cond.fieldLink RX2 9 "VaultHands$Tray" "ops" "[I" ∈ TG := tg_in 114 rfl rfl
set_option maxRecDepth 20000 in
theorem kf_X4_144 : Cond.fieldLink RX4 144 "VaultHands$Tray" "ops" "[I" ∈ TG := tg_in 115 rfl rfl
set_option maxRecDepth 20000 in
theorem kf_X2_15 : Cond.fieldLink RX2 15 "VaultHands$Tray" "firsts" "[I" ∈ TG := tg_in 116 rfl rfl
set_option maxRecDepth 20000 in
theorem kf_X4_147 : Cond.fieldLink RX4 147 "VaultHands$Tray" "firsts" "[I" ∈ TG := tg_in 117 rfl rfl
set_option maxRecDepth 20000 in
theorem kf_X2_18 : Cond.fieldLink RX2 18 "VaultHands$Tray" "seconds" "[I" ∈ TG := tg_in 118 rfl rfl
set_option maxRecDepth 20000 in
theorem kf_X4_159 : Cond.fieldLink RX4 159 "VaultHands$Tray" "seconds" "[I" ∈ TG := tg_in 119 rfl rfl
set_option maxRecDepth 20000 in
theorem kf_X2_21 : Cond.fieldLink RX2 21 "VaultHands$Tray" "amounts" "[I" ∈ TG := tg_in 120 rfl rfl
set_option maxRecDepth 20000 in
theorem kf_X4_150 : Cond.fieldLink RX4 150 "VaultHands$Tray" "amounts" "[I" ∈ TG := tg_in 121 rfl rfl
set_option maxRecDepth 20000 in
theorem kf_X2_24 : Cond.fieldLink RX2 24 "VaultHands$Tray" "count" "I" ∈ TG := tg_in 122 rfl rfl
set_option maxRecDepth 20000 in
theorem kf_X4_121 : Cond.fieldLink RX4 121 "VaultHands$Tray" "count" "I" ∈ TG := tg_in 123 rfl rfl
set_option maxRecDepth 20000 in
theorem kf_X4_10 : Cond.fieldLink RX4 10 "VaultHands" "keys" "LVaultHands$Keys;" ∈ TG := tg_in 135 rfl rfl
set_option maxRecDepth 20000 in
theorem kf_X4_19 : Cond.fieldLink RX4 19 "VaultHands" "vaults" "LVaultHands$Vaults;" ∈ TG := tg_in 136 rfl rfl
set_option maxRecDepth 20000 in
theorem kf_X4_26 : Cond.fieldLink RX4 26 "VaultHands" "book" "LVaultHands$Book;" ∈ TG := tg_in 137 rfl rfl
set_option maxRecDepth 20000 in
theorem kf_X4_33 : Cond.fieldLink RX4 33 "VaultHands" "tray" "LVaultHands$Tray;" ∈ TG := tg_in 138 rfl rfl
set_option maxRecDepth 20000 in
theorem kf_X4_37 : Cond.fieldLink RX4 37 "VaultHands" "grip" "[I" ∈ TG := tg_in 139 rfl rfl
set_option maxRecDepth 20000 in
theorem kf_X4_41 : Cond.fieldLink RX4 41 "VaultHands" "gripped" "I" ∈ TG := tg_in 140 rfl rfl
set_option maxRecDepth 20000 in
theorem kf_X4_45 : Cond.fieldLink RX4 45 "VaultHands" "alarmCount" "I" ∈ TG := tg_in 141 rfl rfl
set_option maxRecDepth 20000 in
theorem kc_X4_56 : Cond.constant RX4 56 (1000000) ∈ TG := tg_in 172 rfl rfl
set_option maxRecDepth 20000 in
theorem kl_L_10 : Cond.classLink RL 10 RX5 ∈ TG := tg_in 340 rfl rfl
set_option maxRecDepth 20000 in
theorem kn_X5 : Cond.instantiable RX5 20 ∈ TG := tg_in 341 rfl rfl
set_option maxRecDepth 20000 in
theorem km_X5 : Cond.instanceMethod yX5_init ∈ TG := tg_in 343 rfl rfl
set_option maxRecDepth 20000 in
theorem kf_X5_7 : Cond.fieldLink RX5 7 "VaultHandsModel" "teeth" "[I" ∈ TG := tg_in 346 rfl rfl
set_option maxRecDepth 20000 in
theorem kf_X5_13 : Cond.fieldLink RX5 13 "VaultHandsModel" "wears" "[I" ∈ TG := tg_in 347 rfl rfl
set_option maxRecDepth 20000 in
theorem kf_X5_16 : Cond.fieldLink RX5 16 "VaultHandsModel" "wearOf" "[I" ∈ TG := tg_in 348 rfl rfl
set_option maxRecDepth 20000 in
theorem kf_X5_19 : Cond.fieldLink RX5 19 "VaultHandsModel" "timesHeld" "[I" ∈ TG := tg_in 349 rfl rfl
set_option maxRecDepth 20000 in
theorem kf_X5_52 : Cond.fieldLink RX5 52 "VaultHandsModel" "keys" "I" ∈ TG := tg_in 350 rfl rfl
set_option maxRecDepth 20000 in
theorem kf_X5_22 : Cond.fieldLink RX5 22 "VaultHandsModel" "sums" "[I" ∈ TG := tg_in 351 rfl rfl
set_option maxRecDepth 20000 in
theorem kf_X5_25 : Cond.fieldLink RX5 25 "VaultHandsModel" "limits" "[I" ∈ TG := tg_in 352 rfl rfl
set_option maxRecDepth 20000 in
theorem kf_X5_28 : Cond.fieldLink RX5 28 "VaultHandsModel" "nexts" "[I" ∈ TG := tg_in 353 rfl rfl
set_option maxRecDepth 20000 in
theorem kf_X5_31 : Cond.fieldLink RX5 31 "VaultHandsModel" "hands" "[I" ∈ TG := tg_in 354 rfl rfl
set_option maxRecDepth 20000 in
theorem kf_X5_56 : Cond.fieldLink RX5 56 "VaultHandsModel" "vaults" "I" ∈ TG := tg_in 355 rfl rfl
set_option maxRecDepth 20000 in
theorem kf_X5_34 : Cond.fieldLink RX5 34 "VaultHandsModel" "pile" "[I" ∈ TG := tg_in 356 rfl rfl
set_option maxRecDepth 20000 in
theorem kf_X5_76 : Cond.fieldLink RX5 76 "VaultHandsModel" "height" "I" ∈ TG := tg_in 357 rfl rfl
set_option maxRecDepth 20000 in
theorem kf_X5_37 : Cond.fieldLink RX5 37 "VaultHandsModel" "book" "[I" ∈ TG := tg_in 358 rfl rfl
set_option maxRecDepth 20000 in
theorem kf_X5_60 : Cond.fieldLink RX5 60 "VaultHandsModel" "told" "I" ∈ TG := tg_in 359 rfl rfl
set_option maxRecDepth 20000 in
theorem kf_X5_89 : Cond.fieldLink RX5 89 "VaultHandsModel" "alarmed" "I" ∈ TG := tg_in 360 rfl rfl
set_option maxRecDepth 20000 in
theorem kf_X5_40 : Cond.fieldLink RX5 40 "VaultHandsModel" "ops" "[I" ∈ TG := tg_in 361 rfl rfl
set_option maxRecDepth 20000 in
theorem kf_X5_43 : Cond.fieldLink RX5 43 "VaultHandsModel" "first" "[I" ∈ TG := tg_in 362 rfl rfl
set_option maxRecDepth 20000 in
theorem kf_X5_46 : Cond.fieldLink RX5 46 "VaultHandsModel" "second" "[I" ∈ TG := tg_in 363 rfl rfl
set_option maxRecDepth 20000 in
theorem kf_X5_49 : Cond.fieldLink RX5 49 "VaultHandsModel" "amounts" "[I" ∈ TG := tg_in 364 rfl rfl
set_option maxRecDepth 20000 in
theorem kf_X5_122 : Cond.fieldLink RX5 122 "VaultHandsModel" "lying" "I" ∈ TG := tg_in 365 rfl rfl
set_option maxRecDepth 20000 in
theorem kc_X5_59 : Cond.constant RX5 59 (1000000) ∈ TG := tg_in 418 rfl rfl
set_option maxRecDepth 20000 in
theorem in_X0 : ∀ w ∈ wsX00, w ∈ TG := by decide +kernel
set_option maxRecDepth 20000 in
theorem in_X1 : ∀ w ∈ wsX10, w ∈ TG := by decide +kernel
set_option maxRecDepth 20000 in
theorem in_X2 : ∀ w ∈ wsX20, w ∈ TG := by decide +kernel
set_option maxRecDepth 20000 in
theorem in_X3 : ∀ w ∈ wsX30, w ∈ TG := by decide +kernel
set_option maxRecDepth 20000 in
theorem in_X4 : ∀ w ∈ wsX40, w ∈ TG := by decide +kernel
set_option maxRecDepth 20000 in
theorem in_X5 : ∀ w ∈ wsX50, w ∈ TG := by decide +kernel
set_option maxRecDepth 20000 in
theorem ko_X4_init : Cond.code yX4_init cX4_init 1 none ∈ TG := tg_in 35 rfl rfl
set_option maxRecDepth 20000 in
theorem ko_obj : Cond.code objectInit ⟨#[0xb1]⟩ 1 none ∈ TG := tg_in 38 rfl rfl
set_option maxRecDepth 20000 in
theorem ko_X1_init : Cond.code yX1_init cX1_init 1 none ∈ TG := tg_in 43 rfl rfl
set_option maxRecDepth 20000 in
theorem ko_X3_init : Cond.code yX3_init cX3_init 1 none ∈ TG := tg_in 70 rfl rfl
set_option maxRecDepth 20000 in
theorem ko_X0_init : Cond.code yX0_init cX0_init 1 none ∈ TG := tg_in 98 rfl rfl
set_option maxRecDepth 20000 in
theorem ko_X2_init : Cond.code yX2_init cX2_init 1 none ∈ TG := tg_in 112 rfl rfl
set_option maxRecDepth 20000 in
theorem ko_X4_key : Cond.code yX4_key cX4_key 3 (some .int) ∈ TG := tg_in 160 rfl rfl
set_option maxRecDepth 20000 in
theorem ko_X4_isWithin : Cond.code yX4_isWithin cX4_isWithin 3 (some .boolean) ∈ TG := tg_in 163 rfl rfl
set_option maxRecDepth 20000 in
theorem ko_X1_add : Cond.code yX1_add cX1_add 3 (some .int) ∈ TG := tg_in 167 rfl rfl
set_option maxRecDepth 20000 in
theorem ko_X4_vault : Cond.code yX4_vault cX4_vault 2 (some .int) ∈ TG := tg_in 171 rfl rfl
set_option maxRecDepth 20000 in
theorem ko_X3_add : Cond.code yX3_add cX3_add 2 (some .int) ∈ TG := tg_in 176 rfl rfl
set_option maxRecDepth 20000 in
theorem ko_X4_hang : Cond.code yX4_hang cX4_hang 5 (some .int) ∈ TG := tg_in 180 rfl rfl
set_option maxRecDepth 20000 in
theorem ko_X3_hasHand : Cond.code yX3_hasHand cX3_hasHand 3 (some .boolean) ∈ TG := tg_in 184 rfl rfl
set_option maxRecDepth 20000 in
theorem ko_X3_has : Cond.code yX3_has cX3_has 2 (some .boolean) ∈ TG := tg_in 188 rfl rfl
set_option maxRecDepth 20000 in
theorem ko_X1_has : Cond.code yX1_has cX1_has 2 (some .boolean) ∈ TG := tg_in 192 rfl rfl
set_option maxRecDepth 20000 in
theorem ko_X3_keyAt : Cond.code yX3_keyAt cX3_keyAt 3 (some .int) ∈ TG := tg_in 196 rfl rfl
set_option maxRecDepth 20000 in
theorem ko_X3_setKeyAt : Cond.code yX3_setKeyAt cX3_setKeyAt 4 none ∈ TG := tg_in 200 rfl rfl
set_option maxRecDepth 20000 in
theorem ko_X4_link : Cond.code yX4_link cX4_link 4 (some .int) ∈ TG := tg_in 204 rfl rfl
set_option maxRecDepth 20000 in
theorem ko_X4_put : Cond.code yX4_put cX4_put 4 (some .int) ∈ TG := tg_in 209 rfl rfl
set_option maxRecDepth 20000 in
theorem ko_X4_isAmount : Cond.code yX4_isAmount cX4_isAmount 1 (some .boolean) ∈ TG := tg_in 212 rfl rfl
set_option maxRecDepth 20000 in
theorem ko_X4_turnBoth : Cond.code yX4_turnBoth cX4_turnBoth 3 (some .int) ∈ TG := tg_in 216 rfl rfl
set_option maxRecDepth 20000 in
theorem ko_X4_turnHand : Cond.code yX4_turnHand cX4_turnHand 4 (some .int) ∈ TG := tg_in 220 rfl rfl
set_option maxRecDepth 20000 in
theorem ko_X0_write : Cond.code yX0_write cX0_write 2 none ∈ TG := tg_in 224 rfl rfl
set_option maxRecDepth 20000 in
theorem ko_X4_turnKey : Cond.code yX4_turnKey cX4_turnKey 2 (some .int) ∈ TG := tg_in 228 rfl rfl
set_option maxRecDepth 20000 in
theorem ko_X4_raiseAlarm : Cond.code yX4_raiseAlarm cX4_raiseAlarm 2 (some .int) ∈ TG := tg_in 232 rfl rfl
set_option maxRecDepth 20000 in
theorem ko_X4_letGo : Cond.code yX4_letGo cX4_letGo 5 (some .int) ∈ TG := tg_in 236 rfl rfl
set_option maxRecDepth 20000 in
theorem ko_X3_isTooMuch : Cond.code yX3_isTooMuch cX3_isTooMuch 3 (some .boolean) ∈ TG := tg_in 240 rfl rfl
set_option maxRecDepth 20000 in
theorem ko_X4_take : Cond.code yX4_take cX4_take 4 (some .int) ∈ TG := tg_in 244 rfl rfl
set_option maxRecDepth 20000 in
theorem ko_X4_move : Cond.code yX4_move cX4_move 5 (some .int) ∈ TG := tg_in 248 rfl rfl
set_option maxRecDepth 20000 in
theorem ko_X4_split : Cond.code yX4_split cX4_split 4 (some .int) ∈ TG := tg_in 252 rfl rfl
set_option maxRecDepth 20000 in
theorem ko_X4_swap : Cond.code yX4_swap cX4_swap 5 (some .int) ∈ TG := tg_in 256 rfl rfl
set_option maxRecDepth 20000 in
theorem ko_X4_polish : Cond.code yX4_polish cX4_polish 3 (some .int) ∈ TG := tg_in 260 rfl rfl
set_option maxRecDepth 20000 in
theorem ko_X4_rounds : Cond.code yX4_rounds cX4_rounds 6 (some .int) ∈ TG := tg_in 264 rfl rfl
set_option maxRecDepth 20000 in
theorem ko_X4_hasRow : Cond.code yX4_hasRow cX4_hasRow 3 (some .boolean) ∈ TG := tg_in 268 rfl rfl
set_option maxRecDepth 20000 in
theorem ko_X4_sweep : Cond.code yX4_sweep cX4_sweep 8 (some .int) ∈ TG := tg_in 272 rfl rfl
set_option maxRecDepth 20000 in
theorem ko_J9_min : Cond.code yJ9_min_7cf53 cJ9_min_7cf53 2 (some .int) ∈ TG := tg_in 275 rfl rfl
set_option maxRecDepth 20000 in
theorem ko_X4_walk : Cond.code yX4_walk cX4_walk 8 (some .int) ∈ TG := tg_in 279 rfl rfl
set_option maxRecDepth 20000 in
theorem ko_X4_order : Cond.code yX4_order cX4_order 5 (some .int) ∈ TG := tg_in 283 rfl rfl
set_option maxRecDepth 20000 in
theorem ko_X4_isOrder : Cond.code yX4_isOrder cX4_isOrder 5 (some .boolean) ∈ TG := tg_in 287 rfl rfl
set_option maxRecDepth 20000 in
theorem ko_X2_add : Cond.code yX2_add cX2_add 5 (some .int) ∈ TG := tg_in 291 rfl rfl
set_option maxRecDepth 20000 in
theorem ko_X4_run : Cond.code yX4_run cX4_run 3 (some .int) ∈ TG := tg_in 295 rfl rfl
set_option maxRecDepth 20000 in
theorem ko_X4_doOrder : Cond.code yX4_doOrder cX4_doOrder 3 (some .boolean) ∈ TG := tg_in 299 rfl rfl
set_option maxRecDepth 20000 in
theorem ko_X4_sum : Cond.code yX4_sum cX4_sum 2 (some .int) ∈ TG := tg_in 307 rfl rfl
set_option maxRecDepth 20000 in
theorem ko_X4_hung : Cond.code yX4_hung cX4_hung 3 (some .int) ∈ TG := tg_in 311 rfl rfl
set_option maxRecDepth 20000 in
theorem ko_X4_wear : Cond.code yX4_wear cX4_wear 2 (some .int) ∈ TG := tg_in 315 rfl rfl
set_option maxRecDepth 20000 in
theorem ko_X4_entries : Cond.code yX4_entries cX4_entries 1 (some .int) ∈ TG := tg_in 319 rfl rfl
set_option maxRecDepth 20000 in
theorem ko_X4_entry : Cond.code yX4_entry cX4_entry 2 (some .int) ∈ TG := tg_in 323 rfl rfl
set_option maxRecDepth 20000 in
theorem ko_X0_read : Cond.code yX0_read cX0_read 2 (some .int) ∈ TG := tg_in 327 rfl rfl
set_option maxRecDepth 20000 in
theorem ko_X4_clear : Cond.code yX4_clear cX4_clear 2 (some .int) ∈ TG := tg_in 331 rfl rfl
set_option maxRecDepth 20000 in
theorem ko_X4_alarms : Cond.code yX4_alarms cX4_alarms 1 (some .int) ∈ TG := tg_in 335 rfl rfl
set_option maxRecDepth 20000 in
theorem ko_X4_orders : Cond.code yX4_orders cX4_orders 1 (some .int) ∈ TG := tg_in 339 rfl rfl
set_option maxRecDepth 20000 in
theorem ko_X5_init : Cond.code yX5_init cX5_init 1 none ∈ TG := tg_in 344 rfl rfl
set_option maxRecDepth 20000 in
theorem ko_X5_key : Cond.code yX5_key cX5_key 3 (some .int) ∈ TG := tg_in 410 rfl rfl
set_option maxRecDepth 20000 in
theorem ko_X5_vault : Cond.code yX5_vault cX5_vault 2 (some .int) ∈ TG := tg_in 414 rfl rfl
set_option maxRecDepth 20000 in
theorem ko_X5_isAmount : Cond.code yX5_isAmount cX5_isAmount 1 (some .boolean) ∈ TG := tg_in 417 rfl rfl
set_option maxRecDepth 20000 in
theorem ko_X5_hang : Cond.code yX5_hang cX5_hang 5 (some .int) ∈ TG := tg_in 422 rfl rfl
set_option maxRecDepth 20000 in
theorem ko_X5_isVault : Cond.code yX5_isVault cX5_isVault 2 (some .boolean) ∈ TG := tg_in 426 rfl rfl
set_option maxRecDepth 20000 in
theorem ko_X5_isHand : Cond.code yX5_isHand cX5_isHand 1 (some .boolean) ∈ TG := tg_in 429 rfl rfl
set_option maxRecDepth 20000 in
theorem ko_X5_isKey : Cond.code yX5_isKey cX5_isKey 2 (some .boolean) ∈ TG := tg_in 433 rfl rfl
set_option maxRecDepth 20000 in
theorem ko_X5_link : Cond.code yX5_link cX5_link 4 (some .int) ∈ TG := tg_in 437 rfl rfl
set_option maxRecDepth 20000 in
theorem ko_X5_put : Cond.code yX5_put cX5_put 4 (some .int) ∈ TG := tg_in 441 rfl rfl
set_option maxRecDepth 20000 in
theorem ko_X5_turnBoth : Cond.code yX5_turnBoth cX5_turnBoth 3 (some .int) ∈ TG := tg_in 445 rfl rfl
set_option maxRecDepth 20000 in
theorem ko_X5_turnHand : Cond.code yX5_turnHand cX5_turnHand 4 (some .int) ∈ TG := tg_in 449 rfl rfl
set_option maxRecDepth 20000 in
theorem ko_X5_enter : Cond.code yX5_enter cX5_enter 2 none ∈ TG := tg_in 453 rfl rfl
set_option maxRecDepth 20000 in
theorem ko_X5_turnKey : Cond.code yX5_turnKey cX5_turnKey 2 (some .int) ∈ TG := tg_in 457 rfl rfl
set_option maxRecDepth 20000 in
theorem ko_X5_alarm : Cond.code yX5_alarm cX5_alarm 1 none ∈ TG := tg_in 461 rfl rfl
set_option maxRecDepth 20000 in
theorem ko_X5_dropAll : Cond.code yX5_dropAll cX5_dropAll 2 none ∈ TG := tg_in 465 rfl rfl
set_option maxRecDepth 20000 in
theorem ko_X5_dropTop : Cond.code yX5_dropTop cX5_dropTop 3 none ∈ TG := tg_in 469 rfl rfl
set_option maxRecDepth 20000 in
theorem ko_X5_answered : Cond.code yX5_answered cX5_answered 2 (some .int) ∈ TG := tg_in 473 rfl rfl
set_option maxRecDepth 20000 in
theorem ko_X5_ended : Cond.code yX5_ended cX5_ended 2 (some .int) ∈ TG := tg_in 477 rfl rfl
set_option maxRecDepth 20000 in
theorem ko_X5_take : Cond.code yX5_take cX5_take 4 (some .int) ∈ TG := tg_in 481 rfl rfl
set_option maxRecDepth 20000 in
theorem ko_X5_alarmed : Cond.code yX5_alarmed cX5_alarmed 2 (some .int) ∈ TG := tg_in 485 rfl rfl
set_option maxRecDepth 20000 in
theorem ko_X5_move : Cond.code yX5_move cX5_move 5 (some .int) ∈ TG := tg_in 489 rfl rfl
set_option maxRecDepth 20000 in
theorem ko_X5_split : Cond.code yX5_split cX5_split 4 (some .int) ∈ TG := tg_in 493 rfl rfl
set_option maxRecDepth 20000 in
theorem ko_X5_swap : Cond.code yX5_swap cX5_swap 4 (some .int) ∈ TG := tg_in 497 rfl rfl
set_option maxRecDepth 20000 in
theorem ko_X5_polish : Cond.code yX5_polish cX5_polish 4 (some .int) ∈ TG := tg_in 501 rfl rfl
set_option maxRecDepth 20000 in
theorem ko_X5_rounds : Cond.code yX5_rounds cX5_rounds 7 (some .int) ∈ TG := tg_in 505 rfl rfl
set_option maxRecDepth 20000 in
theorem ko_X5_areThere : Cond.code yX5_areThere cX5_areThere 3 (some .boolean) ∈ TG := tg_in 509 rfl rfl
set_option maxRecDepth 20000 in
theorem ko_X5_sweep : Cond.code yX5_sweep cX5_sweep 8 (some .int) ∈ TG := tg_in 513 rfl rfl
set_option maxRecDepth 20000 in
theorem ko_X5_walk : Cond.code yX5_walk cX5_walk 8 (some .int) ∈ TG := tg_in 517 rfl rfl
set_option maxRecDepth 20000 in
theorem ko_X5_order : Cond.code yX5_order cX5_order 5 (some .int) ∈ TG := tg_in 521 rfl rfl
set_option maxRecDepth 20000 in
theorem ko_X5_isOrder : Cond.code yX5_isOrder cX5_isOrder 5 (some .boolean) ∈ TG := tg_in 525 rfl rfl
set_option maxRecDepth 20000 in
theorem ko_X5_run : Cond.code yX5_run cX5_run 5 (some .int) ∈ TG := tg_in 529 rfl rfl
set_option maxRecDepth 20000 in
theorem ko_X5_carriedOut : Cond.code yX5_carriedOut cX5_carriedOut 2 (some .int) ∈ TG := tg_in 533 rfl rfl
set_option maxRecDepth 20000 in
theorem ko_X5_sum : Cond.code yX5_sum cX5_sum 2 (some .int) ∈ TG := tg_in 541 rfl rfl
set_option maxRecDepth 20000 in
theorem ko_X5_hung : Cond.code yX5_hung cX5_hung 3 (some .int) ∈ TG := tg_in 545 rfl rfl
set_option maxRecDepth 20000 in
theorem ko_X5_wear : Cond.code yX5_wear cX5_wear 2 (some .int) ∈ TG := tg_in 549 rfl rfl
set_option maxRecDepth 20000 in
theorem ko_X5_entries : Cond.code yX5_entries cX5_entries 1 (some .int) ∈ TG := tg_in 553 rfl rfl
set_option maxRecDepth 20000 in
theorem ko_X5_entry : Cond.code yX5_entry cX5_entry 2 (some .int) ∈ TG := tg_in 557 rfl rfl
set_option maxRecDepth 20000 in
theorem ko_X5_clear : Cond.code yX5_clear cX5_clear 2 (some .int) ∈ TG := tg_in 561 rfl rfl
set_option maxRecDepth 20000 in
theorem ko_X5_alarms : Cond.code yX5_alarms cX5_alarms 1 (some .int) ∈ TG := tg_in 565 rfl rfl
set_option maxRecDepth 20000 in
theorem ko_X5_orders : Cond.code yX5_orders cX5_orders 1 (some .int) ∈ TG := tg_in 569 rfl rfl
set_option maxRecDepth 20000 in
theorem kx_L_9 : Cond.methodLink RL 9 yX4_init ∈ TG := tg_in 33 rfl rfl
set_option maxRecDepth 20000 in
theorem kx_X4_1 : Cond.methodLink RX4 1 objectInit ∈ TG := tg_in 36 rfl rfl
set_option maxRecDepth 20000 in
theorem kx_X1_3 : Cond.methodLink RX1 3 objectInit ∈ TG := tg_in 44 rfl rfl
set_option maxRecDepth 20000 in
theorem kx_X3_3 : Cond.methodLink RX3 3 objectInit ∈ TG := tg_in 71 rfl rfl
set_option maxRecDepth 20000 in
theorem kx_X0_3 : Cond.methodLink RX0 3 objectInit ∈ TG := tg_in 99 rfl rfl
set_option maxRecDepth 20000 in
theorem kx_X2_3 : Cond.methodLink RX2 3 objectInit ∈ TG := tg_in 113 rfl rfl
set_option maxRecDepth 20000 in
theorem kv_L_13 : Lk_v RL 13 RX4 yX4_key cX4_key 3 (some .int) 2 := ⟨tg_in 157 rfl rfl, tg_in 158 rfl rfl, tg_in 159 rfl rfl, ki_X4, ko_X4_key, rfl, by decide +kernel, by decide +kernel, by decide +kernel⟩
set_option maxRecDepth 20000 in
theorem kv_X4_48 : Lk_s RX4 48 yX4_isWithin cX4_isWithin 3 (some .boolean) 3 := ⟨tg_in 161 rfl rfl, tg_in 162 rfl rfl, ki_X4, ko_X4_isWithin, rfl, by decide +kernel, by decide +kernel, by decide +kernel⟩
set_option maxRecDepth 20000 in
theorem kv_X4_52 : Lk_v RX4 52 RX1 yX1_add cX1_add 3 (some .int) 2 := ⟨tg_in 164 rfl rfl, tg_in 165 rfl rfl, tg_in 166 rfl rfl, ki_X1, ko_X1_add, rfl, by decide +kernel, by decide +kernel, by decide +kernel⟩
set_option maxRecDepth 20000 in
theorem kv_L_18 : Lk_v RL 18 RX4 yX4_vault cX4_vault 2 (some .int) 1 := ⟨tg_in 168 rfl rfl, tg_in 169 rfl rfl, tg_in 170 rfl rfl, ki_X4, ko_X4_vault, rfl, by decide +kernel, by decide +kernel, by decide +kernel⟩
set_option maxRecDepth 20000 in
theorem kv_X4_57 : Lk_v RX4 57 RX3 yX3_add cX3_add 2 (some .int) 1 := ⟨tg_in 173 rfl rfl, tg_in 174 rfl rfl, tg_in 175 rfl rfl, ki_X3, ko_X3_add, rfl, by decide +kernel, by decide +kernel, by decide +kernel⟩
set_option maxRecDepth 20000 in
theorem kv_L_23 : Lk_v RL 23 RX4 yX4_hang cX4_hang 5 (some .int) 3 := ⟨tg_in 177 rfl rfl, tg_in 178 rfl rfl, tg_in 179 rfl rfl, ki_X4, ko_X4_hang, rfl, by decide +kernel, by decide +kernel, by decide +kernel⟩
set_option maxRecDepth 20000 in
theorem kv_X4_60 : Lk_v RX4 60 RX3 yX3_hasHand cX3_hasHand 3 (some .boolean) 2 := ⟨tg_in 181 rfl rfl, tg_in 182 rfl rfl, tg_in 183 rfl rfl, ki_X3, ko_X3_hasHand, rfl, by decide +kernel, by decide +kernel, by decide +kernel⟩
set_option maxRecDepth 20000 in
theorem kv_X3_31 : Lk_v RX3 31 RX3 yX3_has cX3_has 2 (some .boolean) 1 := ⟨tg_in 185 rfl rfl, tg_in 186 rfl rfl, tg_in 187 rfl rfl, ki_X3, ko_X3_has, rfl, by decide +kernel, by decide +kernel, by decide +kernel⟩
set_option maxRecDepth 20000 in
theorem kv_X4_64 : Lk_v RX4 64 RX1 yX1_has cX1_has 2 (some .boolean) 1 := ⟨tg_in 189 rfl rfl, tg_in 190 rfl rfl, tg_in 191 rfl rfl, ki_X1, ko_X1_has, rfl, by decide +kernel, by decide +kernel, by decide +kernel⟩
set_option maxRecDepth 20000 in
theorem kv_X4_68 : Lk_v RX4 68 RX3 yX3_keyAt cX3_keyAt 3 (some .int) 2 := ⟨tg_in 193 rfl rfl, tg_in 194 rfl rfl, tg_in 195 rfl rfl, ki_X3, ko_X3_keyAt, rfl, by decide +kernel, by decide +kernel, by decide +kernel⟩
set_option maxRecDepth 20000 in
theorem kv_X4_71 : Lk_v RX4 71 RX3 yX3_setKeyAt cX3_setKeyAt 4 none 3 := ⟨tg_in 197 rfl rfl, tg_in 198 rfl rfl, tg_in 199 rfl rfl, ki_X3, ko_X3_setKeyAt, rfl, by decide +kernel, by decide +kernel, by decide +kernel⟩
set_option maxRecDepth 20000 in
theorem kv_L_28 : Lk_v RL 28 RX4 yX4_link cX4_link 4 (some .int) 2 := ⟨tg_in 201 rfl rfl, tg_in 202 rfl rfl, tg_in 203 rfl rfl, ki_X4, ko_X4_link, rfl, by decide +kernel, by decide +kernel, by decide +kernel⟩
set_option maxRecDepth 20000 in
theorem kv_X4_75 : Lk_v RX4 75 RX3 yX3_has cX3_has 2 (some .boolean) 1 := ⟨tg_in 205 rfl rfl, tg_in 186 rfl rfl, tg_in 187 rfl rfl, ki_X3, ko_X3_has, rfl, by decide +kernel, by decide +kernel, by decide +kernel⟩
set_option maxRecDepth 20000 in
theorem kv_L_33 : Lk_v RL 33 RX4 yX4_put cX4_put 4 (some .int) 2 := ⟨tg_in 206 rfl rfl, tg_in 207 rfl rfl, tg_in 208 rfl rfl, ki_X4, ko_X4_put, rfl, by decide +kernel, by decide +kernel, by decide +kernel⟩
set_option maxRecDepth 20000 in
theorem kv_X4_79 : Lk_s RX4 79 yX4_isAmount cX4_isAmount 1 (some .boolean) 1 := ⟨tg_in 210 rfl rfl, tg_in 211 rfl rfl, ki_X4, ko_X4_isAmount, rfl, by decide +kernel, by decide +kernel, by decide +kernel⟩
set_option maxRecDepth 20000 in
theorem kv_X4_82 : Lk_v RX4 82 RX4 yX4_turnBoth cX4_turnBoth 3 (some .int) 1 := ⟨tg_in 213 rfl rfl, tg_in 215 rfl rfl, tg_in 0 rfl rfl, ki_X4, ko_X4_turnBoth, rfl, by decide +kernel, by decide +kernel, by decide +kernel⟩
set_option maxRecDepth 20000 in
theorem kv_X4_106 : Lk_v RX4 106 RX4 yX4_turnHand cX4_turnHand 4 (some .int) 2 := ⟨tg_in 217 rfl rfl, tg_in 219 rfl rfl, tg_in 1 rfl rfl, ki_X4, ko_X4_turnHand, rfl, by decide +kernel, by decide +kernel, by decide +kernel⟩
set_option maxRecDepth 20000 in
theorem kv_X4_131 : Lk_v RX4 131 RX0 yX0_write cX0_write 2 none 1 := ⟨tg_in 221 rfl rfl, tg_in 222 rfl rfl, tg_in 223 rfl rfl, ki_X0, ko_X0_write, rfl, by decide +kernel, by decide +kernel, by decide +kernel⟩
set_option maxRecDepth 20000 in
theorem kv_X4_97 : Lk_v RX4 97 RX4 yX4_turnKey cX4_turnKey 2 (some .int) 1 := ⟨tg_in 225 rfl rfl, tg_in 227 rfl rfl, tg_in 2 rfl rfl, ki_X4, ko_X4_turnKey, rfl, by decide +kernel, by decide +kernel, by decide +kernel⟩
set_option maxRecDepth 20000 in
theorem kv_X4_94 : Lk_v RX4 94 RX4 yX4_raiseAlarm cX4_raiseAlarm 2 (some .int) 1 := ⟨tg_in 229 rfl rfl, tg_in 231 rfl rfl, tg_in 3 rfl rfl, ki_X4, ko_X4_raiseAlarm, rfl, by decide +kernel, by decide +kernel, by decide +kernel⟩
set_option maxRecDepth 20000 in
theorem kv_X4_88 : Lk_v RX4 88 RX4 yX4_letGo cX4_letGo 5 (some .int) 2 := ⟨tg_in 233 rfl rfl, tg_in 235 rfl rfl, tg_in 4 rfl rfl, ki_X4, ko_X4_letGo, rfl, by decide +kernel, by decide +kernel, by decide +kernel⟩
set_option maxRecDepth 20000 in
theorem kv_X4_85 : Lk_v RX4 85 RX3 yX3_isTooMuch cX3_isTooMuch 3 (some .boolean) 2 := ⟨tg_in 237 rfl rfl, tg_in 238 rfl rfl, tg_in 239 rfl rfl, ki_X3, ko_X3_isTooMuch, rfl, by decide +kernel, by decide +kernel, by decide +kernel⟩
set_option maxRecDepth 20000 in
theorem kv_L_37 : Lk_v RL 37 RX4 yX4_take cX4_take 4 (some .int) 2 := ⟨tg_in 241 rfl rfl, tg_in 242 rfl rfl, tg_in 243 rfl rfl, ki_X4, ko_X4_take, rfl, by decide +kernel, by decide +kernel, by decide +kernel⟩
set_option maxRecDepth 20000 in
theorem kv_L_41 : Lk_v RL 41 RX4 yX4_move cX4_move 5 (some .int) 3 := ⟨tg_in 245 rfl rfl, tg_in 246 rfl rfl, tg_in 247 rfl rfl, ki_X4, ko_X4_move, rfl, by decide +kernel, by decide +kernel, by decide +kernel⟩
set_option maxRecDepth 20000 in
theorem kv_L_45 : Lk_v RL 45 RX4 yX4_split cX4_split 4 (some .int) 2 := ⟨tg_in 249 rfl rfl, tg_in 250 rfl rfl, tg_in 251 rfl rfl, ki_X4, ko_X4_split, rfl, by decide +kernel, by decide +kernel, by decide +kernel⟩
set_option maxRecDepth 20000 in
theorem kv_L_49 : Lk_v RL 49 RX4 yX4_swap cX4_swap 5 (some .int) 1 := ⟨tg_in 253 rfl rfl, tg_in 254 rfl rfl, tg_in 255 rfl rfl, ki_X4, ko_X4_swap, rfl, by decide +kernel, by decide +kernel, by decide +kernel⟩
set_option maxRecDepth 20000 in
theorem kv_L_53 : Lk_v RL 53 RX4 yX4_polish cX4_polish 3 (some .int) 1 := ⟨tg_in 257 rfl rfl, tg_in 258 rfl rfl, tg_in 259 rfl rfl, ki_X4, ko_X4_polish, rfl, by decide +kernel, by decide +kernel, by decide +kernel⟩
set_option maxRecDepth 20000 in
theorem kv_L_57 : Lk_v RL 57 RX4 yX4_rounds cX4_rounds 6 (some .int) 3 := ⟨tg_in 261 rfl rfl, tg_in 262 rfl rfl, tg_in 263 rfl rfl, ki_X4, ko_X4_rounds, rfl, by decide +kernel, by decide +kernel, by decide +kernel⟩
set_option maxRecDepth 20000 in
theorem kv_X4_103 : Lk_v RX4 103 RX4 yX4_hasRow cX4_hasRow 3 (some .boolean) 2 := ⟨tg_in 265 rfl rfl, tg_in 267 rfl rfl, tg_in 5 rfl rfl, ki_X4, ko_X4_hasRow, rfl, by decide +kernel, by decide +kernel, by decide +kernel⟩
set_option maxRecDepth 20000 in
theorem kv_L_61 : Lk_v RL 61 RX4 yX4_sweep cX4_sweep 8 (some .int) 3 := ⟨tg_in 269 rfl rfl, tg_in 270 rfl rfl, tg_in 271 rfl rfl, ki_X4, ko_X4_sweep, rfl, by decide +kernel, by decide +kernel, by decide +kernel⟩
set_option maxRecDepth 20000 in
theorem kx_X4_109 : Cond.methodLink RX4 109 yJ9_min_7cf53 ∈ TG := tg_in 273 rfl rfl
set_option maxRecDepth 20000 in
theorem kv_L_65 : Lk_v RL 65 RX4 yX4_walk cX4_walk 8 (some .int) 3 := ⟨tg_in 276 rfl rfl, tg_in 277 rfl rfl, tg_in 278 rfl rfl, ki_X4, ko_X4_walk, rfl, by decide +kernel, by decide +kernel, by decide +kernel⟩
set_option maxRecDepth 20000 in
theorem kv_L_69 : Lk_v RL 69 RX4 yX4_order cX4_order 5 (some .int) 4 := ⟨tg_in 280 rfl rfl, tg_in 281 rfl rfl, tg_in 282 rfl rfl, ki_X4, ko_X4_order, rfl, by decide +kernel, by decide +kernel, by decide +kernel⟩
set_option maxRecDepth 20000 in
theorem kv_X4_114 : Lk_v RX4 114 RX4 yX4_isOrder cX4_isOrder 5 (some .boolean) 4 := ⟨tg_in 284 rfl rfl, tg_in 286 rfl rfl, tg_in 6 rfl rfl, ki_X4, ko_X4_isOrder, rfl, by decide +kernel, by decide +kernel, by decide +kernel⟩
set_option maxRecDepth 20000 in
theorem kv_X4_118 : Lk_v RX4 118 RX2 yX2_add cX2_add 5 (some .int) 4 := ⟨tg_in 288 rfl rfl, tg_in 289 rfl rfl, tg_in 290 rfl rfl, ki_X2, ko_X2_add, rfl, by decide +kernel, by decide +kernel, by decide +kernel⟩
set_option maxRecDepth 20000 in
theorem kv_L_74 : Lk_v RL 74 RX4 yX4_run cX4_run 3 (some .int) 0 := ⟨tg_in 292 rfl rfl, tg_in 293 rfl rfl, tg_in 294 rfl rfl, ki_X4, ko_X4_run, rfl, by decide +kernel, by decide +kernel, by decide +kernel⟩
set_option maxRecDepth 20000 in
theorem kv_X4_124 : Lk_v RX4 124 RX4 yX4_doOrder cX4_doOrder 3 (some .boolean) 1 := ⟨tg_in 296 rfl rfl, tg_in 298 rfl rfl, tg_in 7 rfl rfl, ki_X4, ko_X4_doOrder, rfl, by decide +kernel, by decide +kernel, by decide +kernel⟩
set_option maxRecDepth 20000 in
theorem kv_X4_153 : Lk_v RX4 153 RX4 yX4_put cX4_put 4 (some .int) 2 := ⟨tg_in 300 rfl rfl, tg_in 207 rfl rfl, tg_in 208 rfl rfl, ki_X4, ko_X4_put, rfl, by decide +kernel, by decide +kernel, by decide +kernel⟩
set_option maxRecDepth 20000 in
theorem kv_X4_156 : Lk_v RX4 156 RX4 yX4_take cX4_take 4 (some .int) 2 := ⟨tg_in 301 rfl rfl, tg_in 242 rfl rfl, tg_in 243 rfl rfl, ki_X4, ko_X4_take, rfl, by decide +kernel, by decide +kernel, by decide +kernel⟩
set_option maxRecDepth 20000 in
theorem kv_X4_162 : Lk_v RX4 162 RX4 yX4_move cX4_move 5 (some .int) 3 := ⟨tg_in 302 rfl rfl, tg_in 246 rfl rfl, tg_in 247 rfl rfl, ki_X4, ko_X4_move, rfl, by decide +kernel, by decide +kernel, by decide +kernel⟩
set_option maxRecDepth 20000 in
theorem kv_X4_166 : Lk_v RX4 166 RX4 yX4_swap cX4_swap 5 (some .int) 1 := ⟨tg_in 303 rfl rfl, tg_in 254 rfl rfl, tg_in 255 rfl rfl, ki_X4, ko_X4_swap, rfl, by decide +kernel, by decide +kernel, by decide +kernel⟩
set_option maxRecDepth 20000 in
theorem kv_L_79 : Lk_v RL 79 RX4 yX4_sum cX4_sum 2 (some .int) 1 := ⟨tg_in 304 rfl rfl, tg_in 305 rfl rfl, tg_in 306 rfl rfl, ki_X4, ko_X4_sum, rfl, by decide +kernel, by decide +kernel, by decide +kernel⟩
set_option maxRecDepth 20000 in
theorem kv_L_83 : Lk_v RL 83 RX4 yX4_hung cX4_hung 3 (some .int) 2 := ⟨tg_in 308 rfl rfl, tg_in 309 rfl rfl, tg_in 310 rfl rfl, ki_X4, ko_X4_hung, rfl, by decide +kernel, by decide +kernel, by decide +kernel⟩
set_option maxRecDepth 20000 in
theorem kv_L_87 : Lk_v RL 87 RX4 yX4_wear cX4_wear 2 (some .int) 1 := ⟨tg_in 312 rfl rfl, tg_in 313 rfl rfl, tg_in 314 rfl rfl, ki_X4, ko_X4_wear, rfl, by decide +kernel, by decide +kernel, by decide +kernel⟩
set_option maxRecDepth 20000 in
theorem kv_L_91 : Lk_v RL 91 RX4 yX4_entries cX4_entries 1 (some .int) 0 := ⟨tg_in 316 rfl rfl, tg_in 317 rfl rfl, tg_in 318 rfl rfl, ki_X4, ko_X4_entries, rfl, by decide +kernel, by decide +kernel, by decide +kernel⟩
set_option maxRecDepth 20000 in
theorem kv_L_95 : Lk_v RL 95 RX4 yX4_entry cX4_entry 2 (some .int) 1 := ⟨tg_in 320 rfl rfl, tg_in 321 rfl rfl, tg_in 322 rfl rfl, ki_X4, ko_X4_entry, rfl, by decide +kernel, by decide +kernel, by decide +kernel⟩
set_option maxRecDepth 20000 in
theorem kv_X4_128 : Lk_v RX4 128 RX0 yX0_read cX0_read 2 (some .int) 1 := ⟨tg_in 324 rfl rfl, tg_in 325 rfl rfl, tg_in 326 rfl rfl, ki_X0, ko_X0_read, rfl, by decide +kernel, by decide +kernel, by decide +kernel⟩
set_option maxRecDepth 20000 in
theorem kv_L_99 : Lk_v RL 99 RX4 yX4_clear cX4_clear 2 (some .int) 0 := ⟨tg_in 328 rfl rfl, tg_in 329 rfl rfl, tg_in 330 rfl rfl, ki_X4, ko_X4_clear, rfl, by decide +kernel, by decide +kernel, by decide +kernel⟩
set_option maxRecDepth 20000 in
theorem kv_L_103 : Lk_v RL 103 RX4 yX4_alarms cX4_alarms 1 (some .int) 0 := ⟨tg_in 332 rfl rfl, tg_in 333 rfl rfl, tg_in 334 rfl rfl, ki_X4, ko_X4_alarms, rfl, by decide +kernel, by decide +kernel, by decide +kernel⟩
set_option maxRecDepth 20000 in
theorem kv_L_107 : Lk_v RL 107 RX4 yX4_orders cX4_orders 1 (some .int) 0 := ⟨tg_in 336 rfl rfl, tg_in 337 rfl rfl, tg_in 338 rfl rfl, ki_X4, ko_X4_orders, rfl, by decide +kernel, by decide +kernel, by decide +kernel⟩
set_option maxRecDepth 20000 in
theorem kx_L_12 : Cond.methodLink RL 12 yX5_init ∈ TG := tg_in 342 rfl rfl
set_option maxRecDepth 20000 in
theorem kx_X5_1 : Cond.methodLink RX5 1 objectInit ∈ TG := tg_in 345 rfl rfl
set_option maxRecDepth 20000 in
theorem kv_L_17 : Lk_v RL 17 RX5 yX5_key cX5_key 3 (some .int) 2 := ⟨tg_in 407 rfl rfl, tg_in 408 rfl rfl, tg_in 409 rfl rfl, ki_X5, ko_X5_key, rfl, by decide +kernel, by decide +kernel, by decide +kernel⟩
set_option maxRecDepth 20000 in
theorem kv_L_22 : Lk_v RL 22 RX5 yX5_vault cX5_vault 2 (some .int) 1 := ⟨tg_in 411 rfl rfl, tg_in 412 rfl rfl, tg_in 413 rfl rfl, ki_X5, ko_X5_vault, rfl, by decide +kernel, by decide +kernel, by decide +kernel⟩
set_option maxRecDepth 20000 in
theorem kv_X5_63 : Lk_s RX5 63 yX5_isAmount cX5_isAmount 1 (some .boolean) 1 := ⟨tg_in 415 rfl rfl, tg_in 416 rfl rfl, ki_X5, ko_X5_isAmount, rfl, by decide +kernel, by decide +kernel, by decide +kernel⟩
set_option maxRecDepth 20000 in
theorem kv_L_27 : Lk_v RL 27 RX5 yX5_hang cX5_hang 5 (some .int) 3 := ⟨tg_in 419 rfl rfl, tg_in 420 rfl rfl, tg_in 421 rfl rfl, ki_X5, ko_X5_hang, rfl, by decide +kernel, by decide +kernel, by decide +kernel⟩
set_option maxRecDepth 20000 in
theorem kv_X5_67 : Lk_v RX5 67 RX5 yX5_isVault cX5_isVault 2 (some .boolean) 1 := ⟨tg_in 423 rfl rfl, tg_in 425 rfl rfl, tg_in 8 rfl rfl, ki_X5, ko_X5_isVault, rfl, by decide +kernel, by decide +kernel, by decide +kernel⟩
set_option maxRecDepth 20000 in
theorem kv_X5_70 : Lk_s RX5 70 yX5_isHand cX5_isHand 1 (some .boolean) 1 := ⟨tg_in 427 rfl rfl, tg_in 428 rfl rfl, ki_X5, ko_X5_isHand, rfl, by decide +kernel, by decide +kernel, by decide +kernel⟩
set_option maxRecDepth 20000 in
theorem kv_X5_73 : Lk_v RX5 73 RX5 yX5_isKey cX5_isKey 2 (some .boolean) 1 := ⟨tg_in 430 rfl rfl, tg_in 432 rfl rfl, tg_in 9 rfl rfl, ki_X5, ko_X5_isKey, rfl, by decide +kernel, by decide +kernel, by decide +kernel⟩
set_option maxRecDepth 20000 in
theorem kv_L_32 : Lk_v RL 32 RX5 yX5_link cX5_link 4 (some .int) 2 := ⟨tg_in 434 rfl rfl, tg_in 435 rfl rfl, tg_in 436 rfl rfl, ki_X5, ko_X5_link, rfl, by decide +kernel, by decide +kernel, by decide +kernel⟩
set_option maxRecDepth 20000 in
theorem kv_L_36 : Lk_v RL 36 RX5 yX5_put cX5_put 4 (some .int) 2 := ⟨tg_in 438 rfl rfl, tg_in 439 rfl rfl, tg_in 440 rfl rfl, ki_X5, ko_X5_put, rfl, by decide +kernel, by decide +kernel, by decide +kernel⟩
set_option maxRecDepth 20000 in
theorem kv_X5_103 : Lk_v RX5 103 RX5 yX5_turnBoth cX5_turnBoth 3 (some .int) 1 := ⟨tg_in 442 rfl rfl, tg_in 444 rfl rfl, tg_in 10 rfl rfl, ki_X5, ko_X5_turnBoth, rfl, by decide +kernel, by decide +kernel, by decide +kernel⟩
set_option maxRecDepth 20000 in
theorem kv_X5_99 : Lk_v RX5 99 RX5 yX5_turnHand cX5_turnHand 4 (some .int) 2 := ⟨tg_in 446 rfl rfl, tg_in 448 rfl rfl, tg_in 11 rfl rfl, ki_X5, ko_X5_turnHand, rfl, by decide +kernel, by decide +kernel, by decide +kernel⟩
set_option maxRecDepth 20000 in
theorem kv_X5_79 : Lk_v RX5 79 RX5 yX5_enter cX5_enter 2 none 1 := ⟨tg_in 450 rfl rfl, tg_in 452 rfl rfl, tg_in 12 rfl rfl, ki_X5, ko_X5_enter, rfl, by decide +kernel, by decide +kernel, by decide +kernel⟩
set_option maxRecDepth 20000 in
theorem kv_X5_95 : Lk_v RX5 95 RX5 yX5_turnKey cX5_turnKey 2 (some .int) 1 := ⟨tg_in 454 rfl rfl, tg_in 456 rfl rfl, tg_in 13 rfl rfl, ki_X5, ko_X5_turnKey, rfl, by decide +kernel, by decide +kernel, by decide +kernel⟩
set_option maxRecDepth 20000 in
theorem kv_X5_92 : Lk_v RX5 92 RX5 yX5_alarm cX5_alarm 1 none 0 := ⟨tg_in 458 rfl rfl, tg_in 460 rfl rfl, tg_in 14 rfl rfl, ki_X5, ko_X5_alarm, rfl, by decide +kernel, by decide +kernel, by decide +kernel⟩
set_option maxRecDepth 20000 in
theorem kv_X5_86 : Lk_v RX5 86 RX5 yX5_dropAll cX5_dropAll 2 none 1 := ⟨tg_in 462 rfl rfl, tg_in 464 rfl rfl, tg_in 15 rfl rfl, ki_X5, ko_X5_dropAll, rfl, by decide +kernel, by decide +kernel, by decide +kernel⟩
set_option maxRecDepth 20000 in
theorem kv_X5_83 : Lk_v RX5 83 RX5 yX5_dropTop cX5_dropTop 3 none 1 := ⟨tg_in 466 rfl rfl, tg_in 468 rfl rfl, tg_in 16 rfl rfl, ki_X5, ko_X5_dropTop, rfl, by decide +kernel, by decide +kernel, by decide +kernel⟩
set_option maxRecDepth 20000 in
theorem kv_X5_106 : Lk_v RX5 106 RX5 yX5_answered cX5_answered 2 (some .int) 1 := ⟨tg_in 470 rfl rfl, tg_in 472 rfl rfl, tg_in 17 rfl rfl, ki_X5, ko_X5_answered, rfl, by decide +kernel, by decide +kernel, by decide +kernel⟩
set_option maxRecDepth 20000 in
theorem kv_X5_109 : Lk_v RX5 109 RX5 yX5_ended cX5_ended 2 (some .int) 1 := ⟨tg_in 474 rfl rfl, tg_in 476 rfl rfl, tg_in 18 rfl rfl, ki_X5, ko_X5_ended, rfl, by decide +kernel, by decide +kernel, by decide +kernel⟩
set_option maxRecDepth 20000 in
theorem kv_L_40 : Lk_v RL 40 RX5 yX5_take cX5_take 4 (some .int) 2 := ⟨tg_in 478 rfl rfl, tg_in 479 rfl rfl, tg_in 480 rfl rfl, ki_X5, ko_X5_take, rfl, by decide +kernel, by decide +kernel, by decide +kernel⟩
set_option maxRecDepth 20000 in
theorem kv_X5_112 : Lk_v RX5 112 RX5 yX5_alarmed cX5_alarmed 2 (some .int) 1 := ⟨tg_in 482 rfl rfl, tg_in 484 rfl rfl, tg_in 19 rfl rfl, ki_X5, ko_X5_alarmed, rfl, by decide +kernel, by decide +kernel, by decide +kernel⟩
set_option maxRecDepth 20000 in
theorem kv_L_44 : Lk_v RL 44 RX5 yX5_move cX5_move 5 (some .int) 3 := ⟨tg_in 486 rfl rfl, tg_in 487 rfl rfl, tg_in 488 rfl rfl, ki_X5, ko_X5_move, rfl, by decide +kernel, by decide +kernel, by decide +kernel⟩
set_option maxRecDepth 20000 in
theorem kv_L_48 : Lk_v RL 48 RX5 yX5_split cX5_split 4 (some .int) 2 := ⟨tg_in 490 rfl rfl, tg_in 491 rfl rfl, tg_in 492 rfl rfl, ki_X5, ko_X5_split, rfl, by decide +kernel, by decide +kernel, by decide +kernel⟩
set_option maxRecDepth 20000 in
theorem kv_L_52 : Lk_v RL 52 RX5 yX5_swap cX5_swap 4 (some .int) 1 := ⟨tg_in 494 rfl rfl, tg_in 495 rfl rfl, tg_in 496 rfl rfl, ki_X5, ko_X5_swap, rfl, by decide +kernel, by decide +kernel, by decide +kernel⟩
set_option maxRecDepth 20000 in
theorem kv_L_56 : Lk_v RL 56 RX5 yX5_polish cX5_polish 4 (some .int) 1 := ⟨tg_in 498 rfl rfl, tg_in 499 rfl rfl, tg_in 500 rfl rfl, ki_X5, ko_X5_polish, rfl, by decide +kernel, by decide +kernel, by decide +kernel⟩
set_option maxRecDepth 20000 in
theorem kv_L_60 : Lk_v RL 60 RX5 yX5_rounds cX5_rounds 7 (some .int) 3 := ⟨tg_in 502 rfl rfl, tg_in 503 rfl rfl, tg_in 504 rfl rfl, ki_X5, ko_X5_rounds, rfl, by decide +kernel, by decide +kernel, by decide +kernel⟩
set_option maxRecDepth 20000 in
theorem kv_X5_114 : Lk_v RX5 114 RX5 yX5_areThere cX5_areThere 3 (some .boolean) 2 := ⟨tg_in 506 rfl rfl, tg_in 508 rfl rfl, tg_in 20 rfl rfl, ki_X5, ko_X5_areThere, rfl, by decide +kernel, by decide +kernel, by decide +kernel⟩
set_option maxRecDepth 20000 in
theorem kv_L_64 : Lk_v RL 64 RX5 yX5_sweep cX5_sweep 8 (some .int) 3 := ⟨tg_in 510 rfl rfl, tg_in 511 rfl rfl, tg_in 512 rfl rfl, ki_X5, ko_X5_sweep, rfl, by decide +kernel, by decide +kernel, by decide +kernel⟩
set_option maxRecDepth 20000 in
theorem kv_L_68 : Lk_v RL 68 RX5 yX5_walk cX5_walk 8 (some .int) 3 := ⟨tg_in 514 rfl rfl, tg_in 515 rfl rfl, tg_in 516 rfl rfl, ki_X5, ko_X5_walk, rfl, by decide +kernel, by decide +kernel, by decide +kernel⟩
set_option maxRecDepth 20000 in
theorem kv_L_73 : Lk_v RL 73 RX5 yX5_order cX5_order 5 (some .int) 4 := ⟨tg_in 518 rfl rfl, tg_in 519 rfl rfl, tg_in 520 rfl rfl, ki_X5, ko_X5_order, rfl, by decide +kernel, by decide +kernel, by decide +kernel⟩
set_option maxRecDepth 20000 in
theorem kv_X5_118 : Lk_v RX5 118 RX5 yX5_isOrder cX5_isOrder 5 (some .boolean) 4 := ⟨tg_in 522 rfl rfl, tg_in 524 rfl rfl, tg_in 21 rfl rfl, ki_X5, ko_X5_isOrder, rfl, by decide +kernel, by decide +kernel, by decide +kernel⟩
set_option maxRecDepth 20000 in
theorem kv_L_78 : Lk_v RL 78 RX5 yX5_run cX5_run 5 (some .int) 0 := ⟨tg_in 526 rfl rfl, tg_in 527 rfl rfl, tg_in 528 rfl rfl, ki_X5, ko_X5_run, rfl, by decide +kernel, by decide +kernel, by decide +kernel⟩
set_option maxRecDepth 20000 in
theorem kv_X5_138 : Lk_v RX5 138 RX5 yX5_carriedOut cX5_carriedOut 2 (some .int) 1 := ⟨tg_in 530 rfl rfl, tg_in 532 rfl rfl, tg_in 22 rfl rfl, ki_X5, ko_X5_carriedOut, rfl, by decide +kernel, by decide +kernel, by decide +kernel⟩
set_option maxRecDepth 20000 in
theorem kv_X5_125 : Lk_v RX5 125 RX5 yX5_put cX5_put 4 (some .int) 2 := ⟨tg_in 534 rfl rfl, tg_in 439 rfl rfl, tg_in 440 rfl rfl, ki_X5, ko_X5_put, rfl, by decide +kernel, by decide +kernel, by decide +kernel⟩
set_option maxRecDepth 20000 in
theorem kv_X5_128 : Lk_v RX5 128 RX5 yX5_take cX5_take 4 (some .int) 2 := ⟨tg_in 535 rfl rfl, tg_in 479 rfl rfl, tg_in 480 rfl rfl, ki_X5, ko_X5_take, rfl, by decide +kernel, by decide +kernel, by decide +kernel⟩
set_option maxRecDepth 20000 in
theorem kv_X5_131 : Lk_v RX5 131 RX5 yX5_move cX5_move 5 (some .int) 3 := ⟨tg_in 536 rfl rfl, tg_in 487 rfl rfl, tg_in 488 rfl rfl, ki_X5, ko_X5_move, rfl, by decide +kernel, by decide +kernel, by decide +kernel⟩
set_option maxRecDepth 20000 in
theorem kv_X5_135 : Lk_v RX5 135 RX5 yX5_swap cX5_swap 4 (some .int) 1 := ⟨tg_in 537 rfl rfl, tg_in 495 rfl rfl, tg_in 496 rfl rfl, ki_X5, ko_X5_swap, rfl, by decide +kernel, by decide +kernel, by decide +kernel⟩
set_option maxRecDepth 20000 in
theorem kv_L_82 : Lk_v RL 82 RX5 yX5_sum cX5_sum 2 (some .int) 1 := ⟨tg_in 538 rfl rfl, tg_in 539 rfl rfl, tg_in 540 rfl rfl, ki_X5, ko_X5_sum, rfl, by decide +kernel, by decide +kernel, by decide +kernel⟩
set_option maxRecDepth 20000 in
theorem kv_L_86 : Lk_v RL 86 RX5 yX5_hung cX5_hung 3 (some .int) 2 := ⟨tg_in 542 rfl rfl, tg_in 543 rfl rfl, tg_in 544 rfl rfl, ki_X5, ko_X5_hung, rfl, by decide +kernel, by decide +kernel, by decide +kernel⟩
set_option maxRecDepth 20000 in
theorem kv_L_90 : Lk_v RL 90 RX5 yX5_wear cX5_wear 2 (some .int) 1 := ⟨tg_in 546 rfl rfl, tg_in 547 rfl rfl, tg_in 548 rfl rfl, ki_X5, ko_X5_wear, rfl, by decide +kernel, by decide +kernel, by decide +kernel⟩
set_option maxRecDepth 20000 in
theorem kv_L_94 : Lk_v RL 94 RX5 yX5_entries cX5_entries 1 (some .int) 0 := ⟨tg_in 550 rfl rfl, tg_in 551 rfl rfl, tg_in 552 rfl rfl, ki_X5, ko_X5_entries, rfl, by decide +kernel, by decide +kernel, by decide +kernel⟩
set_option maxRecDepth 20000 in
theorem kv_L_98 : Lk_v RL 98 RX5 yX5_entry cX5_entry 2 (some .int) 1 := ⟨tg_in 554 rfl rfl, tg_in 555 rfl rfl, tg_in 556 rfl rfl, ki_X5, ko_X5_entry, rfl, by decide +kernel, by decide +kernel, by decide +kernel⟩
set_option maxRecDepth 20000 in
theorem kv_L_102 : Lk_v RL 102 RX5 yX5_clear cX5_clear 2 (some .int) 0 := ⟨tg_in 558 rfl rfl, tg_in 559 rfl rfl, tg_in 560 rfl rfl, ki_X5, ko_X5_clear, rfl, by decide +kernel, by decide +kernel, by decide +kernel⟩
set_option maxRecDepth 20000 in
theorem kv_L_106 : Lk_v RL 106 RX5 yX5_alarms cX5_alarms 1 (some .int) 0 := ⟨tg_in 562 rfl rfl, tg_in 563 rfl rfl, tg_in 564 rfl rfl, ki_X5, ko_X5_alarms, rfl, by decide +kernel, by decide +kernel, by decide +kernel⟩
set_option maxRecDepth 20000 in
theorem kv_L_110 : Lk_v RL 110 RX5 yX5_orders cX5_orders 1 (some .int) 0 := ⟨tg_in 566 rfl rfl, tg_in 567 rfl rfl, tg_in 568 rfl rfl, ki_X5, ko_X5_orders, rfl, by decide +kernel, by decide +kernel, by decide +kernel⟩
end
section
-- THE STATE: one for the class and for the reference
abbrev Ar : Type := Nat → Int32
abbrev SK : Type := Ar × Ar × Ar × Ar × Nat
abbrev SV : Type := Ar × Ar × Ar × Ar × Ar × Nat
abbrev SB : Type := Ar × Nat
abbrev ST : Type := Ar × Ar × Ar × Ar × Nat
abbrev SG : Type := Ar × Nat × Int32
abbrev CS : Type := SK × SV × SB × ST × SG
abbrev sTee (σ : CS) : Ar := σ.1.1
abbrev sStr (σ : CS) : Ar := σ.1.2.1
abbrev sWea (σ : CS) : Ar := σ.1.2.2.1
abbrev sHel (σ : CS) : Ar := σ.1.2.2.2.1
abbrev sKc (σ : CS) : Nat := σ.1.2.2.2.2
abbrev sLim (σ : CS) : Ar := σ.2.1.1
abbrev sSm (σ : CS) : Ar := σ.2.1.2.1
abbrev sNx (σ : CS) : Ar := σ.2.1.2.2.1
abbrev sLf (σ : CS) : Ar := σ.2.1.2.2.2.1
abbrev sRt (σ : CS) : Ar := σ.2.1.2.2.2.2.1
abbrev sVc (σ : CS) : Nat := σ.2.1.2.2.2.2.2
abbrev sKp (σ : CS) : Ar := σ.2.2.1.1
abbrev sBc (σ : CS) : Nat := σ.2.2.1.2
abbrev sOp (σ : CS) : Ar := σ.2.2.2.1.1
abbrev sFi (σ : CS) : Ar := σ.2.2.2.1.2.1
abbrev sSe (σ : CS) : Ar := σ.2.2.2.1.2.2.1
abbrev sAm (σ : CS) : Ar := σ.2.2.2.1.2.2.2.1
abbrev sTc (σ : CS) : Nat := σ.2.2.2.1.2.2.2.2
abbrev sGp (σ : CS) : Ar := σ.2.2.2.2.1
abbrev sGr (σ : CS) : Nat := σ.2.2.2.2.2.1
abbrev sAl (σ : CS) : Int32 := σ.2.2.2.2.2.2
/-- the two hands of the vaults in one row -/
def mix (f g : Ar) : Ar := fun i => if i % 2 = 0 then f (i / 2) else g (i / 2)
theorem mix_0 (f g : Ar) (v : Nat) : mix f g (2 * v) = f v := by
  unfold mix; rw [if_pos (by omega)]; congr 1; omega
theorem mix_1 (f g : Ar) (v : Nat) : mix f g (2 * v + 1) = g v := by
  unfold mix; rw [if_neg (by omega)]; congr 1; omega
theorem mix_u0 (f g : Ar) (v : Nat) (x : Int32) : upd (mix f g) (2 * v) x = mix (upd f v x) g := by
  funext i; unfold upd mix; dsimp only
  by_cases h : i = 2 * v
  · rw [if_pos h, if_pos (by omega : i % 2 = 0), if_pos (by omega : i / 2 = v)]
  · rw [if_neg h]
    by_cases h2 : i % 2 = 0
    · rw [if_pos h2, if_pos h2, if_neg (by omega)]
    · rw [if_neg h2, if_neg h2]
theorem mix_u1 (f g : Ar) (v : Nat) (x : Int32) : upd (mix f g) (2 * v + 1) x = mix f (upd g v x) := by
  funext i; unfold upd mix; dsimp only
  by_cases h : i = 2 * v + 1
  · rw [if_pos h, if_neg (by omega : ¬ i % 2 = 0), if_pos (by omega : i / 2 = v)]
  · rw [if_neg h]
    by_cases h2 : i % 2 = 0
    · rw [if_pos h2, if_pos h2]
    · rw [if_neg h2, if_neg h2, if_neg (by omega)]
theorem upd_same {f : Ar} {k : Nat} {x : Int32} (h : f k = x) : upd f k x = f := by
  funext i; unfold upd
  by_cases e : i = k
  · rw [if_pos e, e, h]
  · rw [if_neg e]
theorem upd_eq {f : Ar} {k : Nat} {x : Int32} : upd f k x k = x := by unfold upd; rw [if_pos rfl]
theorem upd_ne {f : Ar} {k j : Nat} {x : Int32} (h : j ≠ k) : upd f k x j = f j := by unfold upd; rw [if_neg h]
-- THE WORLDS
def cW (ad : Nat → Nat) (cA : ClassId) (σ : CS) : va_W :=
  [(ad 0, .inr (4, [.ref (ad 1), .ref (ad 2), .ref (ad 3), .ref (ad 4), .ref (ad 5), .int (nI (sGr σ)), .int (sAl σ)])),
   (ad 1, .inr (1, [.ref (ad 6), .ref (ad 7), .ref (ad 8), .ref (ad 9), .int (nI (sKc σ))])),
   (ad 2, .inr (3, [.ref (ad 10), .ref (ad 11), .ref (ad 12), .ref (ad 13), .ref (ad 14), .int (nI (sVc σ))])),
   (ad 3, .inr (0, [.ref (ad 15), .int (nI (sBc σ))])),
   (ad 4, .inr (2, [.ref (ad 16), .ref (ad 17), .ref (ad 18), .ref (ad 19), .int (nI (sTc σ))])),
   (ad 5, .inl (cA, 60, .inl (sGp σ))),
   (ad 6, .inl (cA, 40, .inl (sTee σ))), (ad 7, .inl (cA, 40, .inl (sStr σ))), (ad 8, .inl (cA, 40, .inl (sWea σ))), (ad 9, .inl (cA, 40, .inl (sHel σ))),
   (ad 10, .inl (cA, 12, .inl (sLim σ))), (ad 11, .inl (cA, 12, .inl (sSm σ))), (ad 12, .inl (cA, 12, .inl (sNx σ))), (ad 13, .inl (cA, 12, .inl (sLf σ))), (ad 14, .inl (cA, 12, .inl (sRt σ))),
   (ad 15, .inl (cA, 400, .inl (sKp σ))),
   (ad 16, .inl (cA, 32, .inl (sOp σ))), (ad 17, .inl (cA, 32, .inl (sFi σ))), (ad 18, .inl (cA, 32, .inl (sSe σ))), (ad 19, .inl (cA, 32, .inl (sAm σ)))]
def rW (ad : Nat → Nat) (cA : ClassId) (σ : CS) : va_W :=
  [(ad 0, .inr (5, [.ref (ad 1), .ref (ad 2), .ref (ad 3), .ref (ad 4), .int (nI (sKc σ)), .ref (ad 5), .ref (ad 6), .ref (ad 7), .ref (ad 8), .int (nI (sVc σ)), .ref (ad 9), .int (nI (sGr σ)), .ref (ad 10), .int (nI (sBc σ)), .int (sAl σ), .ref (ad 11), .ref (ad 12), .ref (ad 13), .ref (ad 14), .int (nI (sTc σ))])),
   (ad 1, .inl (cA, 40, .inl (sTee σ))), (ad 2, .inl (cA, 40, .inl (sStr σ))), (ad 3, .inl (cA, 40, .inl (sWea σ))), (ad 4, .inl (cA, 40, .inl (sHel σ))),
   (ad 5, .inl (cA, 12, .inl (sSm σ))), (ad 6, .inl (cA, 12, .inl (sLim σ))), (ad 7, .inl (cA, 12, .inl (sNx σ))), (ad 8, .inl (cA, 24, .inl (mix (sLf σ) (sRt σ)))),
   (ad 9, .inl (cA, 64, .inl (sGp σ))), (ad 10, .inl (cA, 400, .inl (sKp σ))),
   (ad 11, .inl (cA, 32, .inl (sOp σ))), (ad 12, .inl (cA, 32, .inl (sFi σ))), (ad 13, .inl (cA, 32, .inl (sSe σ))), (ad 14, .inl (cA, 32, .inl (sAm σ)))]
-- WHAT IS DONE
def wr (x : Int32) (σ : CS) : CS := (σ.1, σ.2.1, (if sBc σ < 400 then upd (sKp σ) (sBc σ) x else sKp σ, sBc σ + 1), σ.2.2.2)
def tn (σ : CS) (k : Nat) : CS := wr (100 + nI k) ((sTee σ, sStr σ, upd (sWea σ) k (sWea σ k + sStr σ k), upd (sHel σ) k (sHel σ k + 1), sKc σ), σ.2.1, σ.2.2.1, σ.2.2.2.1, (upd (sGp σ) (sGr σ) (nI k), sGr σ + 1, sAl σ))
def dec (σ : CS) (k : Nat) : CS := ((sTee σ, sStr σ, sWea σ, upd (sHel σ) k (sHel σ k - 1), sKc σ), σ.2)
def sgr (σ : CS) (g : Nat) : CS := (σ.1, σ.2.1, σ.2.2.1, σ.2.2.2.1, (sGp σ, g, sAl σ))
def sal (σ : CS) (a : Int32) : CS := (σ.1, σ.2.1, σ.2.2.1, σ.2.2.2.1, (sGp σ, sGr σ, a))
def ssm (σ : CS) (f : Ar) : CS := (σ.1, (sLim σ, f, sNx σ, sLf σ, sRt σ, sVc σ), σ.2.2)
def swe (σ : CS) (f : Ar) : CS := ((sTee σ, sStr σ, f, sHel σ, sKc σ), σ.2)
def d1 (w x : Int32) (σ : CS) : CS := wr (w + x) (dec σ x.toNatClampNeg)
def dr (w : Int32) (g : Ar) : Nat → CS → CS
  | 0, σ => σ
  | j + 1, σ => dr w g j (d1 w (g j) σ)
def da (w : Int32) (σ : CS) : CS := sgr (dr w (sGp σ) (sGr σ) σ) 0
def ra (σ : CS) : CS := da 600 (sal σ (sAl σ + 1))
/-- a hand: 0 it is turned, 1 it is bare, 2 it jams -/
def th (σ : CS) (x h : Int32) : Nat × CS := if x = -1 then (1, wr (10 + h) σ) else if sHel σ x.toNatClampNeg = sTee σ x.toNatClampNeg then (2, wr (700 + x) σ) else (0, tn σ x.toNatClampNeg)
def tb (σ : CS) (v : Nat) : Int32 × CS :=
  if (th σ (sLf σ v) 0).1 = 1 then (-4, da 300 (th σ (sLf σ v) 0).2)
  else if (th σ (sLf σ v) 0).1 = 2 then (-7, ra (th σ (sLf σ v) 0).2)
  else if (th (th σ (sLf σ v) 0).2 (sRt σ v) 1).1 = 1 then (-4, da 300 (th (th σ (sLf σ v) 0).2 (sRt σ v) 1).2)
  else if (th (th σ (sLf σ v) 0).2 (sRt σ v) 1).1 = 2 then (-7, ra (th (th σ (sLf σ v) 0).2 (sRt σ v) 1).2)
  else (0, (th (th σ (sLf σ v) 0).2 (sRt σ v) 1).2)
def ix (n : Nat) (x : Int32) : Option Nat := if 0 ≤ x ∧ x < nI n then some x.toNatClampNeg else none
abbrev amt (n : Int32) : Prop := 0 ≤ n ∧ n ≤ 1000000
def f_key (σ : CS) (t m : Int32) : Int32 × CS := if 1 ≤ t ∧ t ≤ 9 then (if sKc σ = 40 then (-3, σ) else (nI (sKc σ), ((upd (sTee σ) (sKc σ) t, upd (sStr σ) (sKc σ) (if m = 0 then 1 else 2), upd (sWea σ) (sKc σ) 0, upd (sHel σ) (sKc σ) 0, sKc σ + 1), σ.2))) else (-2, σ)
def f_vault (σ : CS) (x : Int32) : Int32 × CS := if amt x then (if sVc σ = 12 then (-3, σ) else (nI (sVc σ), (σ.1, (upd (sLim σ) (sVc σ) x, upd (sSm σ) (sVc σ) 0, upd (sNx σ) (sVc σ) (-1), upd (sLf σ) (sVc σ) (-1), upd (sRt σ) (sVc σ) (-1), sVc σ + 1), σ.2.2))) else (-2, σ)
abbrev okh (h : Int32) : Prop := h = 0 ∨ h = 1
def f_hang (σ : CS) (v h k : Int32) : Int32 × CS := match ix (sVc σ) v with
  | none => (-2, σ)
  | some j => if okh h ∧ (k = -1 ∨ (ix (sKc σ) k).isSome) then (if h = 0 then (sLf σ j, (σ.1, (sLim σ, sSm σ, sNx σ, upd (sLf σ) j k, sRt σ, sVc σ), σ.2.2)) else (sRt σ j, (σ.1, (sLim σ, sSm σ, sNx σ, sLf σ, upd (sRt σ) j k, sVc σ), σ.2.2))) else (-2, σ)
def f_link (σ : CS) (v w : Int32) : Int32 × CS := match ix (sVc σ) v with
  | none => (-2, σ)
  | some j => if w = -1 ∨ (ix (sVc σ) w).isSome then (sNx σ j, (σ.1, (sLim σ, sSm σ, upd (sNx σ) j w, sLf σ, sRt σ, sVc σ), σ.2.2)) else (-2, σ)
def g_put (t : Int32 × CS) (j : Nat) (n : Int32) : Int32 × CS := if t.1 = 0 then (if sLim t.2 j < sSm t.2 j + n then (-5, da 300 t.2) else (sSm t.2 j + n, da 200 (ssm t.2 (upd (sSm t.2) j (sSm t.2 j + n))))) else t
def f_put (σ : CS) (v n : Int32) : Int32 × CS := match ix (sVc σ) v with
  | none => (-2, σ)
  | some j => if amt n then g_put (tb σ j) j n else (-2, σ)
def g_take (t : Int32 × CS) (j : Nat) (n : Int32) : Int32 × CS := if t.1 = 0 then (if sSm t.2 j < n then (-6, ra t.2) else (sSm t.2 j - n, da 200 (ssm t.2 (upd (sSm t.2) j (sSm t.2 j - n))))) else t
def f_take (σ : CS) (v n : Int32) : Int32 × CS := match ix (sVc σ) v with
  | none => (-2, σ)
  | some j => if amt n then g_take (tb σ j) j n else (-2, σ)
/-- the sums behind a move -/
def mvs (f : Ar) (i j : Nat) (n : Int32) : Ar := upd (upd f i (f i - n)) j (upd f i (f i - n) j + n)
def g_move (t : Int32 × CS) (i j : Nat) (n : Int32) : Int32 × CS := if t.1 = 0 then (if sSm t.2 i < n then (-6, ra t.2) else if sLim t.2 j < sSm t.2 j + n then (-5, da 300 t.2) else (mvs (sSm t.2) i j n i, da 200 (ssm t.2 (mvs (sSm t.2) i j n)))) else t
def f_move (σ : CS) (a b n : Int32) : Int32 × CS := match ix (sVc σ) a with
  | none => (-2, σ)
  | some i => match ix (sVc σ) b with
    | none => (-2, σ)
    | some j => if amt n then (if (tb σ i).1 = 0 then g_move (tb (tb σ i).2 j) i j n else tb σ i) else (-2, σ)
def g_split (t : Int32 × CS) (j : Nat) (n : Int32) : Int32 × CS := if t.1 = 0 then (if n = 0 then (-8, ra t.2) else (sSm t.2 j / n, da 200 t.2)) else t
def f_split (σ : CS) (v n : Int32) : Int32 × CS := match ix (sVc σ) v with
  | none => (-2, σ)
  | some j => if 0 ≤ n ∧ n ≤ 1000 then g_split (tb σ j) j n else (-2, σ)
def g_swap (t : Int32 × CS) (j : Nat) : Int32 × CS := if t.1 = 0 then (sRt t.2 j, da 200 (t.2.1, (sLim t.2, sSm t.2, sNx t.2, upd (sLf t.2) j (sRt t.2 j), upd (sRt t.2) j (sLf t.2 j), sVc t.2), t.2.2.2)) else t
def f_swap (σ : CS) (v : Int32) : Int32 × CS := match ix (sVc σ) v with
  | none => (-2, σ)
  | some j => g_swap (tb σ j) j
def f_polish (σ : CS) (k : Int32) : Int32 × CS := match ix (sKc σ) k with
  | none => (-2, σ)
  | some j => (sWea (tn σ j) j, da 200 (swe (tn σ j) (upd (sWea (tn σ j)) j 0)))
def row (σ : CS) (a m : Int32) : Option (Nat × Nat) := match ix (sVc σ) a with
  | none => none
  | some i => if 1 ≤ m ∧ m ≤ 12 ∧ i + m.toNatClampNeg ≤ sVc σ then some (i, m.toNatClampNeg) else none
def rl (n : Nat) : Nat → Nat → Nat → CS → Nat × CS
  | 0, _, less, σ => (less, σ)
  | f + 1, v, less, σ => if (th σ (sLf σ v) 0).1 = 1 then rl n f (v + 1) less (th σ (sLf σ v) 0).2
    else if sSm σ v = 0 then rl n f (v + 1) less (da 500 (th σ (sLf σ v) 0).2)
    else if less + 1 = n then (less + 1, da 400 (ssm (th σ (sLf σ v) 0).2 (upd (sSm σ) v (sSm σ v - 1))))
    else rl n f (v + 1) (less + 1) (da 200 (ssm (th σ (sLf σ v) 0).2 (upd (sSm σ) v (sSm σ v - 1))))
def f_rounds (σ : CS) (a m n : Int32) : Int32 × CS := match row σ a m with
  | none => (-2, σ)
  | some q => if 1 ≤ n ∧ n ≤ 12 then (nI (rl n.toNatClampNeg q.2 q.1 0 σ).1, (rl n.toNatClampNeg q.2 q.1 0 σ).2) else (-2, σ)
def mn (x w : Int32) : Int32 := if x < w then x else w
/-- a sweep's vault, both hands turned -/
def swp (n : Int32) (rec : Int32 → CS → Int32 × CS) (v : Nat) (w : Int32) (u : CS) : Int32 × CS :=
  if w - mn (sSm u v) w = 0 then (n, da 400 (ssm u (upd (sSm u) v (sSm u v - mn (sSm u v) w))))
  else rec (w - mn (sSm u v) w) (da 200 (ssm u (upd (sSm u) v (sSm u v - mn (sSm u v) w))))
def sl (n : Int32) : Nat → Nat → Int32 → CS → Int32 × CS
  | 0, _, w, σ => (n - w, σ)
  | f + 1, v, w, σ => if (th σ (sLf σ v) 0).1 = 1 then sl n f (v + 1) w (th σ (sLf σ v) 0).2
    else if (th σ (sLf σ v) 0).1 = 2 then (-7, ra (th σ (sLf σ v) 0).2)
    else if (th (th σ (sLf σ v) 0).2 (sRt σ v) 1).1 = 1 then sl n f (v + 1) w (da 500 (th (th σ (sLf σ v) 0).2 (sRt σ v) 1).2)
    else if (th (th σ (sLf σ v) 0).2 (sRt σ v) 1).1 = 2 then (-7, ra (th (th σ (sLf σ v) 0).2 (sRt σ v) 1).2)
    else swp n (sl n f (v + 1)) v w (th (th σ (sLf σ v) 0).2 (sRt σ v) 1).2
def f_sweep (σ : CS) (a m n : Int32) : Int32 × CS := match row σ a m with
  | none => (-2, σ)
  | some q => if 1 ≤ n ∧ n ≤ 1000000 then sl n q.2 q.1 n σ else (-2, σ)
def wl (n : Int32) : Nat → Int32 → Int32 → CS → Int32 × CS
  | 0, _, t, σ => (t, da 200 σ)
  | f + 1, x, t, σ => if x = -1 then (t, da 200 σ)
    else if (th σ (sLf σ x.toNatClampNeg) 0).1 = 1 then (t, da 200 (th σ (sLf σ x.toNatClampNeg) 0).2)
    else if (th σ (sLf σ x.toNatClampNeg) 0).1 = 2 then (-7, ra (th σ (sLf σ x.toNatClampNeg) 0).2)
    else if n < t + sSm σ x.toNatClampNeg then (-6, ra (th σ (sLf σ x.toNatClampNeg) 0).2)
    else wl n f (sNx σ x.toNatClampNeg) (t + sSm σ x.toNatClampNeg) (th σ (sLf σ x.toNatClampNeg) 0).2
def f_walk (σ : CS) (v m n : Int32) : Int32 × CS := if (ix (sVc σ) v).isSome ∧ (1 ≤ m ∧ m ≤ 60) ∧ 0 ≤ n then wl n m.toNatClampNeg v 0 σ else (-2, σ)
abbrev isO (σ : CS) (o v w n : Int32) : Prop := ((o = 0 ∨ o = 1) ∧ (ix (sVc σ) v).isSome ∧ amt n) ∨ (o = 2 ∧ (ix (sVc σ) v).isSome ∧ (ix (sVc σ) w).isSome ∧ amt n) ∨ (o = 3 ∧ (ix (sVc σ) v).isSome) ∨ o = 4
def f_order (σ : CS) (o v w n : Int32) : Int32 × CS := if isO σ o v w n then (if sTc σ = 32 then (-3, σ) else (nI (sTc σ + 1), (σ.1, σ.2.1, σ.2.2.1, (upd (sOp σ) (sTc σ) o, upd (sFi σ) (sTc σ) v, upd (sSe σ) (sTc σ) w, upd (sAm σ) (sTc σ) n, sTc σ + 1), σ.2.2.2.2))) else (-2, σ)
def ex (σ : CS) (i : Nat) : Int32 × CS := if sOp σ i = 0 then f_put σ (sFi σ i) (sAm σ i) else if sOp σ i = 1 then f_take σ (sFi σ i) (sAm σ i) else if sOp σ i = 2 then f_move σ (sFi σ i) (sSe σ i) (sAm σ i) else f_swap σ (sFi σ i)
def rn : Nat → Nat → CS → Nat × CS
  | 0, i, σ => (i, σ)
  | f + 1, i, σ => if sOp σ i = 4 then (i, σ) else if (ex σ i).1 = -6 ∨ (ex σ i).1 = -7 then (i, (ex σ i).2) else rn f (i + 1) (ex σ i).2
def stc (σ : CS) (n : Nat) : CS := (σ.1, σ.2.1, σ.2.2.1, (sOp σ, sFi σ, sSe σ, sAm σ, n), σ.2.2.2.2)
def f_run (σ : CS) : Int32 × CS := (nI (rn (sTc σ) 0 σ).1, stc (rn (sTc σ) 0 σ).2 0)
def f_sum (σ : CS) (v : Int32) : Int32 := match ix (sVc σ) v with
  | none => -2
  | some j => sSm σ j
def f_hung (σ : CS) (v h : Int32) : Int32 := match ix (sVc σ) v with
  | none => -2
  | some j => if h = 0 then sLf σ j else if h = 1 then sRt σ j else -2
def f_wear (σ : CS) (k : Int32) : Int32 := match ix (sKc σ) k with
  | none => -2
  | some j => sWea σ j
def f_entry (σ : CS) (i : Int32) : Int32 := match ix (sBc σ) i with
  | none => -1
  | some j => if j < 400 then sKp σ j else -1
def sbc (σ : CS) (n : Nat) : CS := (σ.1, σ.2.1, (sKp σ, n), σ.2.2.2)
end
section
theorem i_nlt {x y : Int32} : ¬ x < y ↔ y ≤ x := Int32.not_lt
theorem i_nle {x y : Int32} : ¬ x ≤ y ↔ y < x := Int32.not_le
theorem ix_lt0 {n : Nat} {x : Int32} (h : x < 0) : ix n x = none := by
  unfold ix; rw [if_neg (fun q => (i_nlt.mpr q.1) h)]
theorem ix_ge {n : Nat} {x : Int32} (h : nI n ≤ x) : ix n x = none := by
  unfold ix; rw [if_neg (fun q => (i_nle.mpr q.2) h)]
theorem ix_in {n : Nat} {x : Int32} (h1 : ¬ x < 0) (h2 : ¬ nI n ≤ x) : ix n x = some x.toNatClampNeg := by
  unfold ix; rw [if_pos ⟨i_nlt.mp h1, i_nle.mp h2⟩]
theorem ix_nI {n j : Nat} (h : j < n) (hn : n < 2 ^ 31) : ix n (nI j) = some j := by
  rw [ix_in (nI_pos (by omega)) (nI_ge h hn), nI_clamp (by omega)]
theorem ix_cases {n : Nat} (x : Int32) (hn : n < 2 ^ 31) : ix n x = none ∨ ∃ j, j < n ∧ x = nI j := by
  rcases pk_ix x hn with h | h | h
  · exact Or.inl (ix_lt0 h)
  · exact Or.inl (ix_ge h)
  · exact Or.inr h
theorem ix_some {n j : Nat} {x : Int32} (hn : n < 2 ^ 31) (h : ix n x = some j) : j < n ∧ x = nI j := by
  rcases ix_cases x hn with q | ⟨i, hi, rfl⟩
  · rw [q] at h; cases h
  · rw [ix_nI hi hn] at h; cases h; exact ⟨hi, rfl⟩
/-- has, as a number -/
def hz (n : Nat) (x : Int32) : Int32 := if (ix n x).isSome then 1 else 0
theorem hz_0 {n : Nat} {x : Int32} (h : ix n x = none) : hz n x = 0 := by unfold hz; rw [h]; rfl
theorem hz_1 {n j : Nat} {x : Int32} (h : ix n x = some j) : hz n x = 1 := by unfold hz; rw [h]; rfl
/-- a condition, as a number -/
def bz (b : Prop) [Decidable b] : Int32 := if b then 1 else 0
theorem bz_1 {b : Prop} [Decidable b] (h : b) : bz b = 1 := if_pos h
theorem bz_0 {b : Prop} [Decidable b] (h : ¬ b) : bz b = 0 := if_neg h
theorem wr_lo {x : Int32} {σ : CS} (h : sBc σ < 400) : wr x σ = (σ.1, σ.2.1, (upd (sKp σ) (sBc σ) x, sBc σ + 1), σ.2.2.2) := by unfold wr; rw [if_pos h]
theorem wr_hi {x : Int32} {σ : CS} (h : ¬ sBc σ < 400) : wr x σ = (σ.1, σ.2.1, (sKp σ, sBc σ + 1), σ.2.2.2) := by unfold wr; rw [if_neg h]
theorem lt_of_c {a b : Nat} {x y : Int32} (hx : x = nI a) (hy : y = nI b) (ha : a < 2 ^ 31) (hb : b < 2 ^ 31) (h : ¬ x ≤ y) : b < a := by
  rw [hx, hy] at h
  rcases Nat.lt_or_ge b a with q | q
  · exact q
  · exact absurd (nI_le q hb) h
theorem ge_of_c {a b : Nat} {x y : Int32} (hx : x = nI a) (hy : y = nI b) (ha : a < 2 ^ 31) (hb : b < 2 ^ 31) (h : x ≤ y) : a ≤ b := by
  rw [hx, hy] at h
  exact (nI_leI ha hb).mp h
theorem bz_nar {b : Prop} [Decidable b] : narrow .boolean (.int (bz b)) = .int (bz b) := by unfold bz; split <;> rfl
theorem hz_nar {n : Nat} {x : Int32} : narrow .boolean (.int (hz n x)) = .int (hz n x) := by unfold hz; split <;> rfl
theorem pr2 {α β : Type} {x : α × β} {a : α} {b : β} (e : x = (a, b)) : a = x.1 ∧ b = x.2 := by rw [e]; exact ⟨rfl, rfl⟩
theorem ix_ex {n : Nat} {x : Int32} (hn : n < 2 ^ 31) (h1 : ¬ x < 0) (h2 : ¬ nI n ≤ x) : ∃ j, j < n ∧ x = nI j := ⟨_, ix_some hn (ix_in h1 h2)⟩
theorem ix_none_s {n : Nat} {x : Int32} (h : ix n x = none) : ¬ (ix n x).isSome = true := by rw [h]; decide
theorem ix_some_s {n j : Nat} {x : Int32} (h : ix n x = some j) : (ix n x).isSome = true := by rw [h]; rfl
theorem m1_sub (x : Int32) : x + (-1) = x - 1 := (Int32.sub_eq_add_neg x 1).symm
-- the class's own answers of its parts
def a_key (σ : CS) (t s : Int32) : Int32 × CS := if sKc σ = 40 then (-3, σ) else (nI (sKc σ), ((upd (sTee σ) (sKc σ) t, upd (sStr σ) (sKc σ) s, sWea σ, sHel σ, sKc σ + 1), σ.2))
def a_vault (σ : CS) (x : Int32) : Int32 × CS := if sVc σ = 12 then (-3, σ) else (nI (sVc σ), (σ.1, (upd (sLim σ) (sVc σ) x, sSm σ, upd (sNx σ) (sVc σ) (-1), upd (sLf σ) (sVc σ) (-1), upd (sRt σ) (sVc σ) (-1), sVc σ + 1), σ.2.2))
def a_ord (σ : CS) (o v w n : Int32) : Int32 × CS := if sTc σ = 32 then (-3, σ) else (nI (sTc σ + 1), (σ.1, σ.2.1, σ.2.2.1, (upd (sOp σ) (sTc σ) o, upd (sFi σ) (sTc σ) v, upd (sSe σ) (sTc σ) w, upd (sAm σ) (sTc σ) n, sTc σ + 1), σ.2.2.2.2))
def hd (σ : CS) (j : Nat) (h : Int32) : Int32 := if h = 0 then sLf σ j else sRt σ j
theorem hd_0 (σ : CS) (j : Nat) : hd σ j 0 = sLf σ j := if_pos rfl
theorem hd_1 (σ : CS) (j : Nat) : hd σ j 1 = sRt σ j := if_neg (by decide)
def shk (σ : CS) (j : Nat) (h k : Int32) : CS := if h = 0 then (σ.1, (sLim σ, sSm σ, sNx σ, upd (sLf σ) j k, sRt σ, sVc σ), σ.2.2) else (σ.1, (sLim σ, sSm σ, sNx σ, sLf σ, upd (sRt σ) j k, sVc σ), σ.2.2)
def tkc (σ : CS) (k : Nat) : Int32 × CS := if sHel σ k = sTee σ k then (-7, wr (700 + nI k) σ) else (0, tn σ k)
def tkm (σ : CS) (k : Nat) : Int32 × CS := if sHel σ k = sTee σ k then (-7, ra (wr (700 + nI k) σ)) else (0, tn σ k)
def thc (n : Nat) : Int32 := if n = 1 then 1 else if n = 2 then -7 else 0
def thr (n : Nat) : Int32 := if n = 1 then -4 else if n = 2 then -7 else 0
def thu (t : Nat × CS) : CS := if t.1 = 2 then ra t.2 else t.2
theorem th_b (σ : CS) (h : Int32) : th σ (-1) h = (1, wr (10 + h) σ) := if_pos rfl
theorem th_j {σ : CS} {k : Nat} {h : Int32} (hk : k < 2 ^ 31) (e : sHel σ k = sTee σ k) : th σ (nI k) h = (2, wr (700 + nI k) σ) := by
  unfold th
  rw [if_neg (fun q => nI_pos hk (by rw [q]; decide)), nI_clamp hk, if_pos e]
theorem th_t {σ : CS} {k : Nat} {h : Int32} (hk : k < 2 ^ 31) (e : ¬ sHel σ k = sTee σ k) : th σ (nI k) h = (0, tn σ k) := by
  unfold th
  rw [if_neg (fun q => nI_pos hk (by rw [q]; decide)), nI_clamp hk, if_neg e]
theorem tkc_th {σ : CS} {k : Nat} (h : Int32) (hk : k < 2 ^ 31) : (tkc σ k).1 = thc (th σ (nI k) h).1 ∧ (tkc σ k).2 = (th σ (nI k) h).2 := by
  unfold tkc
  split
  · next e => rw [th_j hk e]; exact ⟨rfl, rfl⟩
  · next e => rw [th_t hk e]; exact ⟨rfl, rfl⟩
theorem tkm_th {σ : CS} {k : Nat} (h : Int32) (hk : k < 2 ^ 31) : (tkm σ k).1 = thr (th σ (nI k) h).1 ∧ (tkm σ k).2 = thu (th σ (nI k) h) := by
  unfold tkm
  split
  · next e => rw [th_j hk e]; exact ⟨rfl, rfl⟩
  · next e => rw [th_t hk e]; exact ⟨rfl, rfl⟩
theorem fe_n {σ : CS} {x : Int32} (h : ix (sBc σ) x = none) : f_entry σ x = -1 := by unfold f_entry; rw [h]
theorem fe_s {σ : CS} {x : Int32} {j : Nat} (h : ix (sBc σ) x = some j) (hj : j < 400) : f_entry σ x = sKp σ j := by unfold f_entry; rw [h]; exact if_pos hj
theorem fe_h {σ : CS} {x : Int32} {j : Nat} (h : ix (sBc σ) x = some j) (hj : ¬ j < 400) : f_entry σ x = -1 := by unfold f_entry; rw [h]; exact if_neg hj
theorem sgr_self {σ : CS} {g : Nat} (h : sGr σ = g) : sgr σ g = σ := by subst h; rfl
theorem dr_sgr {w : Int32} {g : Ar} {a : Nat} : ∀ {j : Nat} {σ : CS}, dr w g j (sgr σ a) = sgr (dr w g j σ) a
  | 0, _ => rfl
  | j + 1, σ => by unfold dr; exact dr_sgr (j := j) (σ := d1 w (g j) σ)
theorem dr_sal {w : Int32} {g : Ar} {a : Int32} : ∀ {j : Nat} {σ : CS}, dr w g j (sal σ a) = sal (dr w g j σ) a
  | 0, _ => rfl
  | j + 1, σ => by unfold dr; exact dr_sal (j := j) (σ := d1 w (g j) σ)
theorem dr_al {w : Int32} {g : Ar} : ∀ {j : Nat} {σ : CS}, sAl (dr w g j σ) = sAl σ
  | 0, _ => rfl
  | j + 1, σ => by unfold dr; exact dr_al (j := j) (σ := d1 w (g j) σ)
theorem dr_gp {w : Int32} {g : Ar} : ∀ {j : Nat} {σ : CS}, sGp (dr w g j σ) = sGp σ
  | 0, _ => rfl
  | j + 1, σ => by unfold dr; exact dr_gp (j := j) (σ := d1 w (g j) σ)
theorem ra_alt (σ : CS) : sal (da 600 σ) (sAl (da 600 σ) + 1) = ra σ := by
  unfold ra da
  show sal (sgr (dr 600 (sGp σ) (sGr σ) σ) 0) (sAl (dr 600 (sGp σ) (sGr σ) σ) + 1) = sgr (dr 600 (sGp σ) (sGr σ) (sal σ (sAl σ + 1))) 0
  rw [dr_al, dr_sal]
  rfl
theorem d1_k {w x : Int32} {σ : CS} {k : Nat} (e : x = nI k) (hk : k < 2 ^ 31) : d1 w x σ = wr (w + nI k) (dec σ k) := by
  unfold d1; rw [e, nI_clamp hk]
theorem row_n {σ : CS} {a m : Int32} (h : ix (sVc σ) a = none) : row σ a m = none := by unfold row; rw [h]
theorem row_b {σ : CS} {a m : Int32} {i : Nat} (h : ix (sVc σ) a = some i) (hm : ¬ (1 ≤ m ∧ m ≤ 12 ∧ i + m.toNatClampNeg ≤ sVc σ)) : row σ a m = none := by unfold row; rw [h]; exact if_neg hm
theorem row_s {σ : CS} {a m : Int32} {i : Nat} (h : ix (sVc σ) a = some i) (hm : 1 ≤ m ∧ m ≤ 12 ∧ i + m.toNatClampNeg ≤ sVc σ) : row σ a m = some (i, m.toNatClampNeg) := by unfold row; rw [h]; exact if_pos hm
theorem rng {m : Int32} {lo hi : Nat} (hlo : lo < 2 ^ 31) (hhi : hi < 2 ^ 31) (h : nI lo ≤ m ∧ m ≤ nI hi) : ∃ k, lo ≤ k ∧ k ≤ hi ∧ m = nI k := by
  obtain ⟨j, hj, rfl⟩ := nI_of2 (M := nI hi) (n := hi) (nI_toInt hhi) (i_nlt.mpr (Int32.le_trans (nI_pos' hlo) h.1)) h.2
  exact ⟨j, (nI_leI hlo (by omega)).mp h.1, hj, rfl⟩
end
section
-- WHAT ALWAYS HOLDS
def cnt (g : Ar) (k : Nat) : Nat → Nat
  | 0 => 0
  | n + 1 => cnt g k n + (if g n = nI k then 1 else 0)
theorem cnt_congr {g g' : Ar} {k : Nat} : ∀ {n : Nat}, (∀ i, i < n → g i = g' i) → cnt g k n = cnt g' k n
  | 0, _ => rfl
  | n + 1, h => by
    unfold cnt
    rw [cnt_congr (fun i hi => h i (by omega)), h n (by omega)]
theorem cnt_upd {g : Ar} {k n : Nat} {x : Int32} : cnt (upd g n x) k n = cnt g k n := cnt_congr (fun i hi => upd_ne (by omega))
theorem cnt_le {g : Ar} {k : Nat} : ∀ {n : Nat}, cnt g k n ≤ n
  | 0 => Nat.le_refl 0
  | n + 1 => by
    have := cnt_le (g := g) (k := k) (n := n)
    unfold cnt
    split <;> omega
def HX (kc : Nat) (x : Int32) : Prop := x = -1 ∨ ∃ k, k < kc ∧ x = nI k
def InvK (K : SK) (G : SG) : Prop :=
  K.2.2.2.2 ≤ 40 ∧ G.2.1 ≤ 60 ∧ (∀ k, k < K.2.2.2.2 → ∃ t, 1 ≤ t ∧ t ≤ 9 ∧ K.1 k = nI t ∧ cnt G.1 k G.2.1 ≤ t) ∧ (∀ k, K.2.2.2.2 ≤ k → K.2.2.1 k = 0) ∧ (∀ k, k < 40 → K.2.2.2.1 k = nI (cnt G.1 k G.2.1)) ∧ (∀ i, i < G.2.1 → ∃ k, k < K.2.2.2.2 ∧ G.1 i = nI k)
def InvV (V : SV) (kc : Nat) : Prop :=
  V.2.2.2.2.2 ≤ 12 ∧ (∀ v, v < V.2.2.2.2.2 → HX kc (V.2.2.2.1 v) ∧ HX kc (V.2.2.2.2.1 v) ∧ HX V.2.2.2.2.2 (V.2.2.1 v)) ∧ (∀ v, ∃ a, a ≤ 1000000 ∧ V.2.1 v = nI a) ∧ (∀ v, V.2.2.2.2.2 ≤ v → V.2.1 v = 0) ∧ (∀ v, v < V.2.2.2.2.2 → ∃ a, a ≤ 1000000 ∧ V.1 v = nI a)
def InvT (T : ST) : Prop := T.2.2.2.2 ≤ 32 ∧ ∀ i, i < T.2.2.2.2 → T.1 i = 0 ∨ T.1 i = 1 ∨ T.1 i = 2 ∨ T.1 i = 3 ∨ T.1 i = 4
def Inv (σ : CS) : Prop := InvK σ.1 σ.2.2.2.2 ∧ InvV σ.2.1 (sKc σ) ∧ InvT σ.2.2.2.1
theorem Inv.kc {σ : CS} (h : Inv σ) : sKc σ ≤ 40 := h.1.1
theorem Inv.gr {σ : CS} (h : Inv σ) : sGr σ ≤ 60 := h.1.2.1
theorem Inv.vc {σ : CS} (h : Inv σ) : sVc σ ≤ 12 := h.2.1.1
theorem Inv.tc {σ : CS} (h : Inv σ) : sTc σ ≤ 32 := h.2.2.1
theorem Inv.lf {σ : CS} (h : Inv σ) {v : Nat} (hv : v < sVc σ) : HX (sKc σ) (sLf σ v) := (h.2.1.2.1 v hv).1
theorem Inv.rt {σ : CS} (h : Inv σ) {v : Nat} (hv : v < sVc σ) : HX (sKc σ) (sRt σ v) := (h.2.1.2.1 v hv).2.1
theorem Inv.nx {σ : CS} (h : Inv σ) {v : Nat} (hv : v < sVc σ) : HX (sVc σ) (sNx σ v) := (h.2.1.2.1 v hv).2.2
theorem Inv.gp {σ : CS} (h : Inv σ) {i : Nat} (hi : i < sGr σ) : ∃ k, k < sKc σ ∧ sGp σ i = nI k := h.1.2.2.2.2.2 i hi
theorem nI_inj {a b : Nat} (ha : a < 2 ^ 31) (hb : b < 2 ^ 31) (h : nI a = nI b) : a = b := (nI_eq ha hb).mp h
theorem nI_nm1 {a : Nat} (ha : a < 2 ^ 31) : ¬ nI a = -1 := fun h => nI_pos ha (by rw [h]; decide)
theorem InvK.tn {σ : CS} {k : Nat} (h : InvK σ.1 σ.2.2.2.2) (hk : k < sKc σ) (hne : ¬ sHel σ k = sTee σ k) (hg : sGr σ < 60) : InvK (tn σ k).1 (tn σ k).2.2.2.2 := by
  obtain ⟨h1, h2, h3, h4, h5, h6⟩ := h
  have h1 : sKc σ ≤ 40 := h1
  have h5 : ∀ k, k < 40 → sHel σ k = nI (cnt (sGp σ) k (sGr σ)) := h5
  have h6 : ∀ i, i < sGr σ → ∃ k, k < sKc σ ∧ sGp σ i = nI k := h6
  refine ⟨h1, hg, fun k' hk' => ?_, fun k' hk' => ?_, fun k' hk' => ?_, fun i hi => ?_⟩
  · have hk' : k' < sKc σ := hk'
    obtain ⟨t, a, b, c, d⟩ := h3 k' hk'
    refine ⟨t, a, b, c, ?_⟩
    show cnt (upd (sGp σ) (sGr σ) (nI k)) k' (sGr σ + 1) ≤ t
    unfold cnt
    rw [cnt_upd, upd_eq]
    split
    · next e =>
      have e' := nI_inj (by omega) (by omega) e
      subst e'
      have d' : cnt (sGp σ) k (sGr σ) ≤ t := d
      have e2 : sHel σ k = nI (cnt (sGp σ) k (sGr σ)) := h5 k (by omega)
      have e3 : sTee σ k = nI t := c
      have : cnt (sGp σ) k (sGr σ) ≠ t := fun q => hne (by rw [e2, e3, q])
      omega
    · exact d
  · show upd (sWea σ) k (sWea σ k + sStr σ k) k' = 0
    have hk'2 : sKc σ ≤ k' := hk'
    rw [upd_ne (by omega)]
    exact h4 k' hk'
  · show upd (sHel σ) k (sHel σ k + 1) k' = nI (cnt (upd (sGp σ) (sGr σ) (nI k)) k' (sGr σ + 1))
    unfold cnt
    rw [cnt_upd, upd_eq]
    by_cases e : k' = k
    · subst e
      rw [upd_eq, if_pos rfl, h5 k' hk']
      exact nI_1 _
    · rw [upd_ne e, if_neg (fun q => e (nI_inj (by omega) (by omega) q).symm)]
      exact h5 k' hk'
  · show ∃ k', k' < sKc σ ∧ upd (sGp σ) (sGr σ) (nI k) i = nI k'
    have hi' : i < sGr σ + 1 := hi
    by_cases e : i = sGr σ
    · exact ⟨k, hk, by rw [e, upd_eq]⟩
    · rw [upd_ne e]
      exact h6 i (by omega)
theorem InvK.d1 {σ : CS} {g : Ar} {j : Nat} {al w : Int32} (h : InvK σ.1 (g, j + 1, al)) : InvK (d1 w (g j) σ).1 (g, j, al) := by
  obtain ⟨h1, h2, h3, h4, h5, h6⟩ := h
  obtain ⟨k, hk, ek⟩ := h6 j (Nat.lt_succ_self j)
  have h5 : ∀ k, k < 40 → sHel σ k = nI (cnt g k (j + 1)) := h5
  have hk2 : k < 40 := Nat.lt_of_lt_of_le hk h1
  have hc : (g j).toNatClampNeg = k := by rw [show g j = nI k from ek]; exact nI_clamp (by omega)
  refine ⟨h1, by have : j + 1 ≤ 60 := h2; show j ≤ 60; omega, fun k' hk' => ?_, h4, fun k' hk' => ?_, fun i hi => h6 i (Nat.lt_succ_of_lt hi)⟩
  · obtain ⟨t, a, b, c, d⟩ := h3 k' hk'
    refine ⟨t, a, b, c, ?_⟩
    have d' : cnt g k' (j + 1) ≤ t := d
    unfold cnt at d'
    show cnt g k' j ≤ t
    omega
  · show upd (sHel σ) (g j).toNatClampNeg (sHel σ (g j).toNatClampNeg - 1) k' = nI (cnt g k' j)
    rw [hc]
    have e5 : sHel σ k' = nI (cnt g k' (j + 1)) := h5 k' hk'
    unfold cnt at e5
    by_cases e : k' = k
    · subst e
      rw [upd_eq, e5, if_pos (show g j = nI k' from ek)]
      exact nI_pred _
    · rw [upd_ne e, e5, if_neg (fun q => e (nI_inj (by omega) (by omega) ((show g j = nI k from ek).symm.trans q)).symm)]
      rfl
/-- what letting go leaves -/
theorem dr_inv {w : Int32} {g : Ar} {al : Int32} : ∀ {j : Nat} {σ : CS}, InvK σ.1 (g, j, al) → InvK (dr w g j σ).1 (g, 0, al) ∧ (dr w g j σ).2.1 = σ.2.1 ∧ (dr w g j σ).2.2.2 = σ.2.2.2 ∧ sBc (dr w g j σ) = sBc σ + j ∧ sKc (dr w g j σ) = sKc σ
  | 0, σ, h => ⟨h, rfl, rfl, rfl, rfl⟩
  | j + 1, σ, h => by
    obtain ⟨a, b, c, d, e⟩ := dr_inv (w := w) (InvK.d1 (w := w) h)
    unfold dr
    exact ⟨a, b, c, by rw [d]; show sBc σ + 1 + j = sBc σ + (j + 1); omega, e⟩
/-- a step: what holds still holds; vaults' number, tray and keys' number are as before; the book and what is to be told are no more than d on -/
def Stq (σ u : CS) (d : Nat) : Prop := Inv u ∧ sVc u = sVc σ ∧ u.2.2.2.1 = σ.2.2.2.1 ∧ sKc u = sKc σ ∧ sBc u + sGr u ≤ sBc σ + sGr σ + d
theorem Stq.rf {σ : CS} (h : Inv σ) {d : Nat} : Stq σ σ d := ⟨h, rfl, rfl, rfl, Nat.le_add_right _ _⟩
theorem Stq.tr {σ u w : CS} {a b : Nat} (h : Stq σ u a) (k : Stq u w b) : Stq σ w (a + b) := ⟨k.1, k.2.1.trans h.2.1, k.2.2.1.trans h.2.2.1, k.2.2.2.1.trans h.2.2.2.1, by have := h.2.2.2.2; have := k.2.2.2.2; omega⟩
theorem Stq.le {σ u : CS} {a b : Nat} (h : Stq σ u a) (k : a ≤ b) : Stq σ u b := ⟨h.1, h.2.1, h.2.2.1, h.2.2.2.1, by have := h.2.2.2.2; omega⟩
theorem da_inv {w : Int32} {σ : CS} (h : Inv σ) : Inv (da w σ) ∧ (da w σ).2.1 = σ.2.1 ∧ (da w σ).2.2.2.1 = σ.2.2.2.1 ∧ sBc (da w σ) = sBc σ + sGr σ ∧ sKc (da w σ) = sKc σ ∧ sGr (da w σ) = 0 := by
  obtain ⟨a, b, c, d, e⟩ := dr_inv (w := w) (g := sGp σ) (al := sAl σ) (j := sGr σ) (σ := σ) h.1
  have c1 : (dr w (sGp σ) (sGr σ) σ).2.2.2.1 = σ.2.2.2.1 := by rw [c]
  have c2 : sGp (dr w (sGp σ) (sGr σ) σ) = sGp σ := by show (dr w (sGp σ) (sGr σ) σ).2.2.2.2.1 = _; rw [c]
  have c3 : sAl (dr w (sGp σ) (sGr σ) σ) = sAl σ := by show (dr w (sGp σ) (sGr σ) σ).2.2.2.2.2.2 = _; rw [c]
  refine ⟨⟨?_, ?_, ?_⟩, b, c1, d, e, rfl⟩
  · show InvK (dr w (sGp σ) (sGr σ) σ).1 (sGp (dr w (sGp σ) (sGr σ) σ), 0, sAl (dr w (sGp σ) (sGr σ) σ))
    rw [c2, c3]; exact a
  · show InvV (dr w (sGp σ) (sGr σ) σ).2.1 (sKc (dr w (sGp σ) (sGr σ) σ))
    rw [b, e]; exact h.2.1
  · show InvT (dr w (sGp σ) (sGr σ) σ).2.2.2.1
    rw [c1]; exact h.2.2
theorem da_st {w : Int32} {σ : CS} (h : Inv σ) : Stq σ (da w σ) 0 := by
  obtain ⟨a, b, c, d, e, f⟩ := da_inv (w := w) h
  exact ⟨a, by show (da w σ).2.1.2.2.2.2.2 = _; rw [b], c, e, by rw [d, f]; omega⟩
theorem da_gr {w : Int32} {σ : CS} : sGr (da w σ) = 0 := rfl
theorem sal_inv {σ : CS} {x : Int32} (h : Inv σ) : Inv (sal σ x) := h
theorem ra_st {σ : CS} (h : Inv σ) : Stq σ (ra σ) 0 := by
  obtain ⟨a, b, c, d, e⟩ := da_st (w := 600) (sal_inv (x := sAl σ + 1) h)
  exact ⟨a, b, c, d, e⟩
theorem ra_gr {σ : CS} : sGr (ra σ) = 0 := rfl
theorem ra_v {σ : CS} (h : Inv σ) : (ra σ).2.1 = σ.2.1 := (da_inv (w := 600) (sal_inv (x := sAl σ + 1) h)).2.1
theorem da_v {w : Int32} {σ : CS} (h : Inv σ) : (da w σ).2.1 = σ.2.1 := (da_inv h).2.1
theorem th_v {σ : CS} {x h : Int32} : (th σ x h).2.2.1 = σ.2.1 := by
  unfold th; split
  · rfl
  · split <;> rfl
theorem th_st {σ : CS} {x h : Int32} (hI : Inv σ) (hx : HX (sKc σ) x) (hg : sGr σ < 60) : Stq σ (th σ x h).2 2 := by
  unfold th
  split
  · exact ⟨hI, rfl, rfl, rfl, by show sBc σ + 1 + sGr σ ≤ _; omega⟩
  · next h1 =>
    split
    · exact ⟨hI, rfl, rfl, rfl, by show sBc σ + 1 + sGr σ ≤ _; omega⟩
    · next h2 =>
      rcases hx with hx | ⟨k, hk, rfl⟩
      · exact absurd hx h1
      · rw [nI_clamp (by have := hI.kc; omega)] at h2 ⊢
        exact ⟨⟨InvK.tn hI.1 hk h2 hg, hI.2.1, hI.2.2⟩, rfl, rfl, rfl, by show sBc σ + 1 + (sGr σ + 1) ≤ _; omega⟩
theorem th_gr {σ : CS} {x h : Int32} : sGr (th σ x h).2 ≤ sGr σ + 1 := by
  unfold th
  split
  · show sGr σ ≤ _; omega
  · split
    · show sGr σ ≤ _; omega
    · exact Nat.le_refl _
theorem th_le {σ : CS} {x h : Int32} : (th σ x h).1 ≤ 2 := by
  unfold th
  split
  · show 1 ≤ 2; decide
  · split
    · show 2 ≤ 2; decide
    · show 0 ≤ 2; decide
theorem th_gr0 {σ : CS} {x h : Int32} (q : (th σ x h).1 = 0) : sGr (th σ x h).2 = sGr σ + 1 := by
  unfold th at q ⊢
  split at q
  · cases q
  · split at q
    · cases q
    · next a b => rw [if_neg a, if_neg b]; rfl
theorem th_gr1 {σ : CS} {x h : Int32} (q : ¬ (th σ x h).1 = 0) : sGr (th σ x h).2 = sGr σ := by
  unfold th at q ⊢
  split at q
  · next a => rw [if_pos a]; rfl
  · next a =>
    split at q
    · next b => rw [if_neg a, if_pos b]; rfl
    · exact absurd rfl q
/-- nothing is held: no hand jams -/
theorem th_nojam {σ : CS} {x h : Int32} (hI : Inv σ) (hx : HX (sKc σ) x) (hg : sGr σ = 0) : ¬ (th σ x h).1 = 2 := by
  unfold th
  split
  · show ¬ 1 = 2; decide
  · next h1 =>
    split
    · next h2 =>
      rcases hx with hx | ⟨k, hk, rfl⟩
      · exact absurd hx h1
      · rw [nI_clamp (by have := hI.kc; omega)] at h2
        obtain ⟨t, a, b, c, -⟩ := hI.1.2.2.1 k hk
        have e : sHel σ k = nI (cnt (sGp σ) k (sGr σ)) := hI.1.2.2.2.2.1 k (by have := hI.kc; omega)
        rw [hg] at e
        rw [e, show sTee σ k = nI t from c] at h2
        have : 0 = t := nI_inj (by decide) (by omega) h2
        omega
    · show ¬ 0 = 2; decide
theorem key_free {σ : CS} {k : Nat} (hI : Inv σ) (hk : k < sKc σ) (hg : sGr σ = 0) : ¬ sHel σ k = sTee σ k := by
  have := th_nojam (x := nI k) (h := 0) hI (Or.inr ⟨k, hk, rfl⟩) hg
  unfold th at this
  rw [if_neg (nI_nm1 (by have := hI.kc; omega)), nI_clamp (by have := hI.kc; omega)] at this
  intro e
  rw [if_pos e] at this
  exact this rfl
theorem tb_st {σ : CS} {v : Nat} (hI : Inv σ) (hv : v < sVc σ) (hg : sGr σ + 2 ≤ 60) : Stq σ (tb σ v).2 4 := by
  have s1 := th_st (h := 0) hI (hI.lf hv) (by omega)
  have g1 := th_gr (σ := σ) (x := sLf σ v) (h := 0)
  have s2 := th_st (h := 1) s1.1 (x := sRt σ v) (by rw [s1.2.2.2.1]; exact hI.rt hv) (by omega)
  have s3 := s1.tr s2
  unfold tb
  split
  · exact (s1.tr (da_st s1.1)).le (by omega)
  · split
    · exact (s1.tr (ra_st s1.1)).le (by omega)
    · split
      · exact (s3.tr (da_st s2.1)).le (by omega)
      · split
        · exact (s3.tr (ra_st s2.1)).le (by omega)
        · exact s3
theorem tb_v {σ : CS} {v : Nat} (hI : Inv σ) (hv : v < sVc σ) (hg : sGr σ + 2 ≤ 60) : (tb σ v).2.2.1 = σ.2.1 := by
  have s1 := th_st (h := 0) hI (hI.lf hv) (by omega)
  have g1 := th_gr (σ := σ) (x := sLf σ v) (h := 0)
  have s2 := th_st (h := 1) s1.1 (x := sRt σ v) (by rw [s1.2.2.2.1]; exact hI.rt hv) (by omega)
  unfold tb
  split
  · exact (da_v s1.1).trans th_v
  · split
    · exact (ra_v s1.1).trans th_v
    · split
      · exact (da_v s2.1).trans (th_v.trans th_v)
      · split
        · exact (ra_v s2.1).trans (th_v.trans th_v)
        · exact th_v.trans th_v
theorem tb_gr {σ : CS} {v : Nat} : sGr (tb σ v).2 ≤ sGr σ + 2 := by
  have g1 := th_gr (σ := σ) (x := sLf σ v) (h := 0)
  have g2 := th_gr (σ := (th σ (sLf σ v) 0).2) (x := sRt σ v) (h := 1)
  unfold tb
  split
  · exact Nat.zero_le _
  · split
    · exact Nat.zero_le _
    · split
      · exact Nat.zero_le _
      · split
        · exact Nat.zero_le _
        · exact Nat.le_trans g2 (by omega)
theorem tb_gr1 {σ : CS} {v : Nat} (q : ¬ (tb σ v).1 = 0) : sGr (tb σ v).2 = 0 := by
  unfold tb at q ⊢
  split at q
  · next a => rw [if_pos a]; rfl
  · next a =>
    split at q
    · next b => rw [if_neg a, if_pos b]; rfl
    · next b =>
      split at q
      · next c => rw [if_neg a, if_neg b, if_pos c]; rfl
      · next c =>
        split at q
        · next d => rw [if_neg a, if_neg b, if_neg c, if_pos d]; rfl
        · exact absurd rfl q
end
section
theorem hel_ge {σ : CS} {k : Nat} (hI : Inv σ) (hk : k < sKc σ) : sTee σ k ≤ sHel σ k ↔ sHel σ k = sTee σ k := by
  obtain ⟨t, a, b, c, d⟩ := hI.1.2.2.1 k hk
  have hkc := hI.kc
  have e : sHel σ k = nI (cnt (sGp σ) k (sGr σ)) := hI.1.2.2.2.2.1 k (by omega)
  have c' : sTee σ k = nI t := c
  have d' : cnt (sGp σ) k (sGr σ) ≤ t := d
  rw [e, c', nI_leI (by omega) (by omega), nI_eq (by omega) (by omega)]
  omega
theorem th_012 (σ : CS) (x h : Int32) : (th σ x h).1 = 0 ∨ (th σ x h).1 = 1 ∨ (th σ x h).1 = 2 := by
  have := th_le (σ := σ) (x := x) (h := h)
  omega
theorem th_rt {σ : CS} {x h : Int32} {j : Nat} : hd (th σ x h).2 j 1 = sRt σ j := by
  rw [hd_1]; show (th σ x h).2.2.1.2.2.2.2.1 j = _; rw [th_v]
end
section
theorem InvV.sm {V : SV} {kc : Nat} {f : Ar} (h : InvV V kc) (hf : ∀ v, ∃ a, a ≤ 1000000 ∧ f v = nI a) (h0 : ∀ v, V.2.2.2.2.2 ≤ v → f v = 0) : InvV (V.1, f, V.2.2) kc := ⟨h.1, h.2.1, hf, h0, h.2.2.2.2⟩
theorem Inv.sm {σ : CS} (h : Inv σ) (v : Nat) : ∃ a, a ≤ 1000000 ∧ sSm σ v = nI a := h.2.1.2.2.1 v
theorem Inv.sm0 {σ : CS} (h : Inv σ) {v : Nat} (hv : sVc σ ≤ v) : sSm σ v = 0 := h.2.1.2.2.2.1 v hv
theorem Inv.lim {σ : CS} (h : Inv σ) {v : Nat} (hv : v < sVc σ) : ∃ a, a ≤ 1000000 ∧ sLim σ v = nI a := h.2.1.2.2.2.2 v hv
theorem upd_inv {σ : CS} {j a : Nat} {x : Int32} (h : Inv σ) (hj : j < sVc σ) (ha : a ≤ 1000000) (hx : x = nI a) : Inv (ssm σ (upd (sSm σ) j x)) := by
  refine ⟨h.1, InvV.sm h.2.1 (fun v => ?_) (fun v hv => ?_), h.2.2⟩
  · by_cases e : v = j
    · exact ⟨a, ha, by rw [e, upd_eq, hx]⟩
    · rw [upd_ne e]; exact h.sm v
  · have hv : sVc σ ≤ v := hv
    rw [upd_ne (by omega)]; exact h.sm0 hv
theorem amt_n {n : Int32} (h : amt n) : ∃ b, b ≤ 1000000 ∧ n = nI b := by
  obtain ⟨k, -, hk, rfl⟩ := rng (lo := 0) (hi := 1000000) (by decide) (by decide) h
  exact ⟨k, hk, rfl⟩
theorem put_inv {σ : CS} {j : Nat} {n : Int32} (h : Inv σ) (hj : j < sVc σ) (hn : amt n) (hc : ¬ sLim σ j < sSm σ j + n) : Inv (ssm σ (upd (sSm σ) j (sSm σ j + n))) := by
  obtain ⟨a, ha, ea⟩ := h.sm j
  obtain ⟨b, hb, rfl⟩ := amt_n hn
  obtain ⟨c, hc2, ec⟩ := h.lim hj
  rw [ea, ec, nI_add] at hc
  have : a + b ≤ c := Nat.not_lt.mp fun q => hc (nI_lt q (by omega))
  exact upd_inv h hj (a := a + b) (by omega) (by rw [ea, nI_add])
theorem take_inv {σ : CS} {j : Nat} {n : Int32} (h : Inv σ) (hj : j < sVc σ) (hn : amt n) (hc : ¬ sSm σ j < n) : Inv (ssm σ (upd (sSm σ) j (sSm σ j - n))) := by
  obtain ⟨a, ha, ea⟩ := h.sm j
  obtain ⟨b, hb, rfl⟩ := amt_n hn
  rw [ea] at hc
  have : b ≤ a := Nat.not_lt.mp fun q => hc (nI_lt q (by omega))
  exact upd_inv h hj (a := a - b) (by omega) (by rw [ea, pk_sub this])
theorem move_inv {σ : CS} {i j : Nat} {n : Int32} (h : Inv σ) (hi : i < sVc σ) (hj : j < sVc σ) (hn : amt n) (hc : ¬ sSm σ i < n) (hd : ¬ sLim σ j < sSm σ j + n) : Inv (ssm σ (mvs (sSm σ) i j n)) := by
  have h1 := take_inv h hi hn hc
  unfold mvs
  by_cases e : j = i
  · subst e
    obtain ⟨a, ha, ea⟩ := h.sm j
    obtain ⟨b, hb, rfl⟩ := amt_n hn
    rw [ea] at hc
    have hba : b ≤ a := Nat.not_lt.mp fun q => hc (nI_lt q (by omega))
    exact upd_inv h1 hj (a := a) ha (by rw [upd_eq, ea, pk_sub hba, nI_add]; congr 1; omega)
  · have e2 : upd (sSm σ) i (sSm σ i - n) j = sSm σ j := upd_ne e
    refine put_inv (σ := ssm σ (upd (sSm σ) i (sSm σ i - n))) h1 hj hn ?_
    show ¬ sLim σ j < upd (sSm σ) i (sSm σ i - n) j + n
    rw [e2]; exact hd
theorem dec_inv {σ : CS} {j : Nat} (h : Inv σ) (hj : j < sVc σ) (hc : ¬ sSm σ j = 0) : Inv (ssm σ (upd (sSm σ) j (sSm σ j - 1))) := by
  obtain ⟨a, ha, ea⟩ := h.sm j
  rw [ea] at hc
  have : 0 < a := Nat.pos_of_ne_zero fun q => hc (by rw [q]; rfl)
  exact upd_inv h hj (a := a - 1) (by omega) (by rw [ea]; exact pk_sub (b := 1) this)
theorem hands_inv {σ : CS} {f g : Ar} (h : Inv σ) (hf : ∀ v, v < sVc σ → HX (sKc σ) (f v)) (hg : ∀ v, v < sVc σ → HX (sKc σ) (g v)) : Inv (σ.1, (sLim σ, sSm σ, sNx σ, f, g, sVc σ), σ.2.2) :=
  ⟨h.1, ⟨h.2.1.1, fun v hv => ⟨hf v hv, hg v hv, h.nx hv⟩, h.2.1.2.2⟩, h.2.2⟩
theorem upd_hx {kc n j : Nat} {f : Ar} {x : Int32} (hf : ∀ v, v < n → HX kc (f v)) (hx : HX kc x) : ∀ v, v < n → HX kc (upd f j x v) := by
  intro v hv
  by_cases e : v = j
  · rw [e, upd_eq]; exact hx
  · rw [upd_ne e]; exact hf v hv
theorem swap_inv {σ : CS} {j : Nat} (h : Inv σ) (hj : j < sVc σ) : Inv (σ.1, (sLim σ, sSm σ, sNx σ, upd (sLf σ) j (sRt σ j), upd (sRt σ) j (sLf σ j), sVc σ), σ.2.2) :=
  hands_inv h (upd_hx (fun v hv => h.lf hv) (h.rt hj)) (upd_hx (fun v hv => h.rt hv) (h.lf hj))
theorem swe_inv {σ : CS} {f : Ar} (h : Inv σ) (hf : ∀ k, sKc σ ≤ k → f k = 0) : Inv (swe σ f) := ⟨⟨h.1.1, h.1.2.1, h.1.2.2.1, hf, h.1.2.2.2.2⟩, h.2⟩
theorem tn_inv {σ : CS} {k : Nat} (h : Inv σ) (hk : k < sKc σ) (hne : ¬ sHel σ k = sTee σ k) (hg : sGr σ < 60) : Inv (tn σ k) := ⟨InvK.tn h.1 hk hne hg, h.2⟩
theorem pol_inv {σ : CS} {k : Nat} (h : Inv σ) (hk : k < sKc σ) : Inv (swe σ (upd (sWea σ) k 0)) := by
  refine swe_inv h (fun j hj => ?_)
  rw [upd_ne (by omega)]
  exact h.1.2.2.2.1 j hj
end
section
theorem f_key_a {σ : CS} {t m w : Int32} (hI : Inv σ) (hg : sGr σ = 0) (ht : 1 ≤ t ∧ t ≤ 9) (hw : (if m = 0 then (1 : Int32) else 2) = w) : f_key σ t m = a_key σ t w := by
  unfold f_key a_key
  rw [if_pos ht, hw]
  have hkc := hI.kc
  by_cases e : sKc σ = 40
  · rw [if_pos e, if_pos e]
  · have e1 : upd (sWea σ) (sKc σ) 0 = sWea σ := upd_same (hI.1.2.2.2.1 _ (Nat.le_refl _))
    have e2 : upd (sHel σ) (sKc σ) 0 = sHel σ := upd_same (by
      have h5 : sHel σ (sKc σ) = nI (cnt (sGp σ) (sKc σ) (sGr σ)) := hI.1.2.2.2.2.1 (sKc σ) (by omega)
      rw [h5, hg]; rfl)
    rw [if_neg e, if_neg e, e1, e2]
theorem f_vault_a {σ : CS} {x : Int32} (hI : Inv σ) (hx : amt x) : f_vault σ x = a_vault σ x := by
  unfold f_vault a_vault
  rw [if_pos hx, upd_same (hI.sm0 (Nat.le_refl _))]
theorem hang_ok {σ : CS} {v h k : Int32} {j : Nat} (h0 : ix (sVc σ) v = some j) (hh : okh h) (hk : k = -1 ∨ (ix (sKc σ) k).isSome = true) : f_hang σ v h k = (hd σ j h, shk σ j h k) := by
  unfold f_hang; rw [h0]; dsimp only; rw [if_pos ⟨hh, hk⟩]; unfold hd shk
  split <;> rfl
theorem hang_b1 {σ : CS} {v h k : Int32} (h0 : ix (sVc σ) v = none) : f_hang σ v h k = (-2, σ) := by unfold f_hang; rw [h0]
theorem hang_b2 {σ : CS} {v h k : Int32} {j : Nat} (h0 : ix (sVc σ) v = some j) (hh : ¬ (okh h ∧ (k = -1 ∨ (ix (sKc σ) k).isSome = true))) : f_hang σ v h k = (-2, σ) := by
  unfold f_hang; rw [h0]; dsimp only; rw [if_neg hh]
theorem link_ok {σ : CS} {v w : Int32} {j : Nat} (h0 : ix (sVc σ) v = some j) (hk : w = -1 ∨ (ix (sVc σ) w).isSome = true) : f_link σ v w = (sNx σ j, (σ.1, (sLim σ, sSm σ, upd (sNx σ) j w, sLf σ, sRt σ, sVc σ), σ.2.2)) := by
  unfold f_link; rw [h0]; dsimp only; rw [if_pos hk]
theorem link_b1 {σ : CS} {v w : Int32} (h0 : ix (sVc σ) v = none) : f_link σ v w = (-2, σ) := by unfold f_link; rw [h0]
theorem link_b2 {σ : CS} {v w : Int32} {j : Nat} (h0 : ix (sVc σ) v = some j) (hk : ¬ (w = -1 ∨ (ix (sVc σ) w).isSome = true)) : f_link σ v w = (-2, σ) := by
  unfold f_link; rw [h0]; dsimp only; rw [if_neg hk]
theorem put_b1 {σ : CS} {v n : Int32} (h0 : ix (sVc σ) v = none) : f_put σ v n = (-2, σ) := by unfold f_put; rw [h0]
theorem put_b2 {σ : CS} {v n : Int32} {j : Nat} (h0 : ix (sVc σ) v = some j) (hn : ¬ amt n) : f_put σ v n = (-2, σ) := by unfold f_put; rw [h0]; exact if_neg hn
theorem put_g {σ : CS} {v n : Int32} {j : Nat} (h0 : ix (sVc σ) v = some j) (hn : amt n) : f_put σ v n = g_put (tb σ j) j n := by unfold f_put; rw [h0]; exact if_pos hn
theorem take_b1 {σ : CS} {v n : Int32} (h0 : ix (sVc σ) v = none) : f_take σ v n = (-2, σ) := by unfold f_take; rw [h0]
theorem take_b2 {σ : CS} {v n : Int32} {j : Nat} (h0 : ix (sVc σ) v = some j) (hn : ¬ amt n) : f_take σ v n = (-2, σ) := by unfold f_take; rw [h0]; exact if_neg hn
theorem take_g {σ : CS} {v n : Int32} {j : Nat} (h0 : ix (sVc σ) v = some j) (hn : amt n) : f_take σ v n = g_take (tb σ j) j n := by unfold f_take; rw [h0]; exact if_pos hn
theorem split_b1 {σ : CS} {v n : Int32} (h0 : ix (sVc σ) v = none) : f_split σ v n = (-2, σ) := by unfold f_split; rw [h0]
theorem split_b2 {σ : CS} {v n : Int32} {j : Nat} (h0 : ix (sVc σ) v = some j) (hn : ¬ (0 ≤ n ∧ n ≤ 1000)) : f_split σ v n = (-2, σ) := by unfold f_split; rw [h0]; exact if_neg hn
theorem split_g {σ : CS} {v n : Int32} {j : Nat} (h0 : ix (sVc σ) v = some j) (hn : 0 ≤ n ∧ n ≤ 1000) : f_split σ v n = g_split (tb σ j) j n := by unfold f_split; rw [h0]; exact if_pos hn
theorem swap_b1 {σ : CS} {v : Int32} (h0 : ix (sVc σ) v = none) : f_swap σ v = (-2, σ) := by unfold f_swap; rw [h0]
theorem swap_g {σ : CS} {v : Int32} {j : Nat} (h0 : ix (sVc σ) v = some j) : f_swap σ v = g_swap (tb σ j) j := by unfold f_swap; rw [h0]
theorem move_b1 {σ : CS} {a b n : Int32} (h0 : ix (sVc σ) a = none) : f_move σ a b n = (-2, σ) := by unfold f_move; rw [h0]
theorem move_b2 {σ : CS} {a b n : Int32} {i : Nat} (h0 : ix (sVc σ) a = some i) (h1 : ix (sVc σ) b = none) : f_move σ a b n = (-2, σ) := by unfold f_move; rw [h0]; dsimp only; rw [h1]
theorem move_b3 {σ : CS} {a b n : Int32} {i j : Nat} (h0 : ix (sVc σ) a = some i) (h1 : ix (sVc σ) b = some j) (hn : ¬ amt n) : f_move σ a b n = (-2, σ) := by unfold f_move; rw [h0]; dsimp only; rw [h1]; exact if_neg hn
theorem move_g1 {σ : CS} {a b n : Int32} {i j : Nat} (h0 : ix (sVc σ) a = some i) (h1 : ix (sVc σ) b = some j) (hn : amt n) (q : ¬ (tb σ i).1 = 0) : f_move σ a b n = tb σ i := by unfold f_move; rw [h0]; dsimp only; rw [h1]; dsimp only; rw [if_pos hn, if_neg q]
theorem move_g {σ : CS} {a b n : Int32} {i j : Nat} (h0 : ix (sVc σ) a = some i) (h1 : ix (sVc σ) b = some j) (hn : amt n) (q : (tb σ i).1 = 0) : f_move σ a b n = g_move (tb (tb σ i).2 j) i j n := by unfold f_move; rw [h0]; dsimp only; rw [h1]; dsimp only; rw [if_pos hn, if_pos q]
theorem pol_b {σ : CS} {k : Int32} (h0 : ix (sKc σ) k = none) : f_polish σ k = (-2, σ) := by unfold f_polish; rw [h0]
theorem pol_g {σ : CS} {k : Int32} {j : Nat} (h0 : ix (sKc σ) k = some j) : f_polish σ k = (sWea (tn σ j) j, da 200 (swe (tn σ j) (upd (sWea (tn σ j)) j 0))) := by unfold f_polish; rw [h0]
theorem tkc_free {σ : CS} {k : Nat} (hI : Inv σ) (hk : k < sKc σ) (hg : sGr σ = 0) : tkc σ k = (0, tn σ k) := if_neg (key_free hI hk hg)
theorem tkm_free {σ : CS} {k : Nat} (hI : Inv σ) (hk : k < sKc σ) (hg : sGr σ = 0) : tkm σ k = (0, tn σ k) := if_neg (key_free hI hk hg)
theorem sum_n {σ : CS} {v : Int32} (h0 : ix (sVc σ) v = none) : f_sum σ v = -2 := by unfold f_sum; rw [h0]
theorem sum_s {σ : CS} {v : Int32} {j : Nat} (h0 : ix (sVc σ) v = some j) : f_sum σ v = sSm σ j := by unfold f_sum; rw [h0]
theorem wear_n {σ : CS} {v : Int32} (h0 : ix (sKc σ) v = none) : f_wear σ v = -2 := by unfold f_wear; rw [h0]
theorem wear_s {σ : CS} {v : Int32} {j : Nat} (h0 : ix (sKc σ) v = some j) : f_wear σ v = sWea σ j := by unfold f_wear; rw [h0]
theorem hung_n {σ : CS} {v h : Int32} (h0 : ix (sVc σ) v = none) : f_hung σ v h = -2 := by unfold f_hung; rw [h0]
theorem hung_s {σ : CS} {v h : Int32} {j : Nat} (h0 : ix (sVc σ) v = some j) (hh : okh h) : f_hung σ v h = hd σ j h := by
  unfold f_hung; rw [h0]; dsimp only; unfold hd
  rcases hh with rfl | rfl
  · rw [if_pos rfl, if_pos rfl]
  · rw [if_neg (by decide), if_pos rfl, if_neg (by decide)]
theorem hung_b {σ : CS} {v h : Int32} {j : Nat} (h0 : ix (sVc σ) v = some j) (hh : ¬ okh h) : f_hung σ v h = -2 := by
  unfold f_hung; rw [h0]; dsimp only
  rw [if_neg (fun q => hh (Or.inl q)), if_neg (fun q => hh (Or.inr q))]
theorem o5 (o : Int32) : o = 0 ∨ o = 1 ∨ o = 2 ∨ o = 3 ∨ o = 4 ∨ (o.toInt < 0 ∨ 4 < o.toInt) := by
  have h : o.toInt < 0 ∨ 4 < o.toInt ∨ o.toInt = 0 ∨ o.toInt = 1 ∨ o.toInt = 2 ∨ o.toInt = 3 ∨ o.toInt = 4 := by omega
  rcases h with h | h | h | h | h | h | h
  · exact Or.inr (Or.inr (Or.inr (Or.inr (Or.inr (Or.inl h)))))
  · exact Or.inr (Or.inr (Or.inr (Or.inr (Or.inr (Or.inr h)))))
  · exact Or.inl (Int32.toInt_inj.mp h)
  · exact Or.inr (Or.inl (Int32.toInt_inj.mp h))
  · exact Or.inr (Or.inr (Or.inl (Int32.toInt_inj.mp h)))
  · exact Or.inr (Or.inr (Or.inr (Or.inl (Int32.toInt_inj.mp h))))
  · exact Or.inr (Or.inr (Or.inr (Or.inr (Or.inl (Int32.toInt_inj.mp h)))))
theorem o_ne {o c : Int32} (ho : o.toInt < 0 ∨ 4 < o.toInt) (hc : ¬ (c.toInt < 0 ∨ 4 < c.toInt)) : ¬ o = c := fun e => hc (e ▸ ho)
theorem o_out {o : Int32} (ho : o.toInt < 0 ∨ 4 < o.toInt) (c : ¬ o < 0) : 4 < o := by
  rcases ho with h | h
  · exact absurd (Int32.lt_iff_toInt_lt.mpr h) c
  · exact Int32.lt_iff_toInt_lt.mpr h
theorem isO_v {σ : CS} {o v w n : Int32} (h : isO σ o v w n) (ho : ¬ o = 4) : (ix (sVc σ) v).isSome = true := by
  rcases h with ⟨-, h, -⟩ | ⟨-, h, -⟩ | ⟨-, h⟩ | h
  · exact h
  · exact h
  · exact h
  · exact absurd h ho
theorem isO_n {σ : CS} {o v w n : Int32} (h : isO σ o v w n) (h3 : ¬ o = 3) (ho : ¬ o = 4) : amt n := by
  rcases h with ⟨-, -, h⟩ | ⟨-, -, -, h⟩ | ⟨h, -⟩ | h
  · exact h
  · exact h
  · exact absurd h h3
  · exact absurd h ho
theorem isO_w {σ : CS} {v w n : Int32} (h : isO σ 2 v w n) : (ix (sVc σ) w).isSome = true := by
  rcases h with ⟨h, -⟩ | ⟨-, -, h, -⟩ | ⟨h, -⟩ | h
  · exact absurd h (by decide)
  · exact h
  · exact absurd h (by decide)
  · exact absurd h (by decide)
theorem isO_r {σ : CS} {o v w n : Int32} (h : isO σ o v w n) : o = 0 ∨ o = 1 ∨ o = 2 ∨ o = 3 ∨ o = 4 := by
  rcases h with ⟨h | h, -⟩ | ⟨h, -⟩ | ⟨h, -⟩ | h
  · exact Or.inl h
  · exact Or.inr (Or.inl h)
  · exact Or.inr (Or.inr (Or.inl h))
  · exact Or.inr (Or.inr (Or.inr (Or.inl h)))
  · exact Or.inr (Or.inr (Or.inr (Or.inr h)))
theorem isO_out {σ : CS} {o v w n : Int32} (ho : o.toInt < 0 ∨ 4 < o.toInt) (h : isO σ o v w n) : False := by
  rcases isO_r h with rfl | rfl | rfl | rfl | rfl <;> exact absurd ho (by decide)
theorem order_a {σ : CS} {o v w n : Int32} (h : isO σ o v w n) : f_order σ o v w n = a_ord σ o v w n := if_pos h
theorem order_b {σ : CS} {o v w n : Int32} (h : ¬ isO σ o v w n) : f_order σ o v w n = (-2, σ) := if_neg h
end
section
set_option maxHeartbeats 4000000 in
set_option maxRecDepth 100000 in
theorem c_X0_write (l : Launch) (D : va_G) (cA : ClassId) (ad : Nat → Nat) (A : Nat → Prop) (hDD : ∀ u, va_D A (cW ad cA u)) (σ : CS) (x : Int32) (hb9 : sBc σ < 2147483647) : Cv l D cA (cW ad cA) A yX0_write cX0_write 2 0 0 [.ref (ad 3), .int x] σ (fun u => u = wr x σ) := by
  refine Cv.of (by decide) (Nat.le_of_ble_eq_true rfl) ?_
  intro p e s m below meth c ls S0 hr hlocks hK hP hS hl
  obtain ⟨hx, hb, hml, hown, hts⟩ := id S0
  have hl : lv_has ls 2 [(0, .ref (ad 3)), (1, .int x)] := hl
  refine lv_aload_n hx hb dX0_write_0 rfl (lv_at hl 0 rfl) ?_
  refine va_get (D := D) (ci := 0) (v := .int (nI (sBc σ))) (C := RX0) (T := TX0) (N := 2) hx hb hts in_X0 hown hK hP 3 rfl rfl 1 (by decide) (hts _ kf_X0_15) (fun _ h9 => h9) rfl dX0_write_1 ?_
  refine lv_if_lt (tgt := 27) hx hb dX0_write_4 (by decide) (fun c9 => absurd c9 (nI_pos (by omega))) (fun _ => ?_)
  refine lv_aload_n hx hb dX0_write_7 rfl (lv_at hl 0 rfl) ?_
  refine va_get (D := D) (ci := 0) (v := .int (nI (sBc σ))) (C := RX0) (T := TX0) (N := 2) hx hb hts in_X0 hown hK hP 3 rfl rfl 1 (by decide) (hts _ kf_X0_15) (fun _ h9 => h9) rfl dX0_write_8 ?_
  refine lv_sipush (v := 400) hx hb dX0_write_11 (by decide) ?_
  refine lv_icmp_ge (tgt := 27) hx hb dX0_write_14 (by decide) (fun c14 => ?_) (fun c14 => ?_)
  · refine lv_aload_n hx hb dX0_write_27 rfl (lv_at hl 0 rfl) ?_
    refine lv_dup hx hb dX0_write_28 rfl ?_
    refine va_get (D := D) (ci := 0) (v := .int (nI (sBc σ))) (C := RX0) (T := TX0) (N := 2) hx hb hts in_X0 hown hK hP 3 rfl rfl 1 (by decide) (hts _ kf_X0_15) (fun _ h9 => h9) rfl dX0_write_29 ?_
    refine lv_iconst (v := 1) hx hb dX0_write_32 (by decide) ?_
    refine lv_iadd hx hb dX0_write_33 ?_
    refine tp_i (z := (nI ((sBc σ) + 1))) (nI_1 _) ?_
    refine va_put (D := D) (ci := 0) (v := .int (nI ((sBc σ) + 1))) (ty := .int) (C := RX0) (T := TX0) (N := 2) hx hb hts in_X0 tyX0 tyX0_ok nmX0 hown hK hP (hDD _) hS 3 rfl rfl 1 (by decide) (hts _ kf_X0_15) (fun _ h9 => h9) rfl (by decide +kernel) rfl rfl (Nat.le_of_ble_eq_true rfl) dX0_write_34 (fun H locs hP _ hS => ?_)
    have hP : va_P D vwCl (cW ad cA (σ.1, σ.2.1, ((sKp σ), ((sBc σ) + 1)), σ.2.2.2.1, σ.2.2.2.2)) H := hP
    exact rt_v (u := (σ.1, σ.2.1, ((sKp σ), ((sBc σ) + 1)), σ.2.2.2.1, σ.2.2.2.2)) hx hb hr hlocks hS hP ((wr_hi (Nat.not_lt.mpr (ge_of_c (a := 400) rfl rfl (by omega) (by omega) c14))).symm) dX0_write_37
  · have h4 : sBc σ < 400 := lt_of_c (a := 400) rfl rfl (by omega) (by omega) c14
    refine lv_aload_n hx hb dX0_write_17 rfl (lv_at hl 0 rfl) ?_
    refine va_get (D := D) (ci := 0) (v := .ref (ad 15)) (C := RX0) (T := TX0) (N := 2) hx hb hts in_X0 hown hK hP 3 rfl rfl 0 (by decide) (hts _ kf_X0_9) (fun _ h9 => h9) rfl dX0_write_18 ?_
    refine lv_aload_n hx hb dX0_write_21 rfl (lv_at hl 0 rfl) ?_
    refine va_get (D := D) (ci := 0) (v := .int (nI (sBc σ))) (C := RX0) (T := TX0) (N := 2) hx hb hts in_X0 hown hK hP 3 rfl rfl 1 (by decide) (hts _ kf_X0_15) (fun _ h9 => h9) rfl dX0_write_22 ?_
    refine lv_iload_n hx hb dX0_write_25 rfl (lv_at hl 1 rfl) ?_
    refine ar_p hx hb hK hP (hDD _) hS 15 rfl (x := x) h4 (by decide) dX0_write_26 (fun H locs hP hS => ?_)
    have hP : va_P D vwCl (cW ad cA (σ.1, σ.2.1, ((upd (sKp σ) (sBc σ) x), (sBc σ)), σ.2.2.2.1, σ.2.2.2.2)) H := hP
    refine lv_aload_n hx hb dX0_write_27 rfl (lv_at hl 0 rfl) ?_
    refine lv_dup hx hb dX0_write_28 rfl ?_
    refine va_get (D := D) (ci := 0) (v := .int (nI (sBc σ))) (C := RX0) (T := TX0) (N := 2) hx hb hts in_X0 hown hK hP 3 rfl rfl 1 (by decide) (hts _ kf_X0_15) (fun _ h9 => h9) rfl dX0_write_29 ?_
    refine lv_iconst (v := 1) hx hb dX0_write_32 (by decide) ?_
    refine lv_iadd hx hb dX0_write_33 ?_
    refine tp_i (z := (nI ((sBc σ) + 1))) (nI_1 _) ?_
    refine va_put (D := D) (ci := 0) (v := .int (nI ((sBc σ) + 1))) (ty := .int) (C := RX0) (T := TX0) (N := 2) hx hb hts in_X0 tyX0 tyX0_ok nmX0 hown hK hP (hDD _) hS 3 rfl rfl 1 (by decide) (hts _ kf_X0_15) (fun _ h9 => h9) rfl (by decide +kernel) rfl rfl (Nat.le_of_ble_eq_true rfl) dX0_write_34 (fun H locs hP _ hS => ?_)
    have hP : va_P D vwCl (cW ad cA (σ.1, σ.2.1, ((upd (sKp σ) (sBc σ) x), ((sBc σ) + 1)), σ.2.2.2.1, σ.2.2.2.2)) H := hP
    exact rt_v (u := (σ.1, σ.2.1, ((upd (sKp σ) (sBc σ) x), ((sBc σ) + 1)), σ.2.2.2.1, σ.2.2.2.2)) hx hb hr hlocks hS hP ((wr_lo h4).symm) dX0_write_37
set_option maxHeartbeats 4000000 in
set_option maxRecDepth 100000 in
theorem c_X5_enter (l : Launch) (D : va_G) (cA : ClassId) (ad : Nat → Nat) (A : Nat → Prop) (hDD : ∀ u, va_D A (rW ad cA u)) (σ : CS) (x : Int32) (hb9 : sBc σ < 2147483647) : Cv l D cA (rW ad cA) A yX5_enter cX5_enter 2 0 0 [.ref (ad 0), .int x] σ (fun u => u = wr x σ) := by
  refine Cv.of (by decide) (Nat.le_of_ble_eq_true rfl) ?_
  intro p e s m below meth c ls S0 hr hlocks hK hP hS hl
  obtain ⟨hx, hb, hml, hown, hts⟩ := id S0
  have hl : lv_has ls 2 [(0, .ref (ad 0)), (1, .int x)] := hl
  refine lv_aload_n hx hb dX5_enter_0 rfl (lv_at hl 0 rfl) ?_
  refine va_get (D := D) (ci := 5) (v := .int (nI (sBc σ))) (C := RX5) (T := TX5) (N := 20) hx hb hts in_X5 hown hK hP 0 rfl rfl 13 (by decide) (hts _ kf_X5_60) (fun _ h9 => h9) rfl dX5_enter_1 ?_
  refine lv_sipush (v := 400) hx hb dX5_enter_4 (by decide) ?_
  refine lv_icmp_ge (tgt := 20) hx hb dX5_enter_7 (by decide) (fun c14 => ?_) (fun c14 => ?_)
  · refine lv_aload_n hx hb dX5_enter_20 rfl (lv_at hl 0 rfl) ?_
    refine lv_dup hx hb dX5_enter_21 rfl ?_
    refine va_get (D := D) (ci := 5) (v := .int (nI (sBc σ))) (C := RX5) (T := TX5) (N := 20) hx hb hts in_X5 hown hK hP 0 rfl rfl 13 (by decide) (hts _ kf_X5_60) (fun _ h9 => h9) rfl dX5_enter_22 ?_
    refine lv_iconst (v := 1) hx hb dX5_enter_25 (by decide) ?_
    refine lv_iadd hx hb dX5_enter_26 ?_
    refine tp_i (z := (nI ((sBc σ) + 1))) (nI_1 _) ?_
    refine va_put (D := D) (ci := 5) (v := .int (nI ((sBc σ) + 1))) (ty := .int) (C := RX5) (T := TX5) (N := 20) hx hb hts in_X5 tyX5 tyX5_ok nmX5 hown hK hP (hDD _) hS 0 rfl rfl 13 (by decide) (hts _ kf_X5_60) (fun _ h9 => h9) rfl (by decide +kernel) rfl rfl (Nat.le_of_ble_eq_true rfl) dX5_enter_27 (fun H locs hP _ hS => ?_)
    have hP : va_P D vwCl (rW ad cA (σ.1, σ.2.1, ((sKp σ), ((sBc σ) + 1)), σ.2.2.2.1, σ.2.2.2.2)) H := hP
    exact rt_v (u := (σ.1, σ.2.1, ((sKp σ), ((sBc σ) + 1)), σ.2.2.2.1, σ.2.2.2.2)) hx hb hr hlocks hS hP ((wr_hi (Nat.not_lt.mpr (ge_of_c (a := 400) rfl rfl (by omega) (by omega) c14))).symm) dX5_enter_30
  · have h4 : sBc σ < 400 := lt_of_c (a := 400) rfl rfl (by omega) (by omega) c14
    refine lv_aload_n hx hb dX5_enter_10 rfl (lv_at hl 0 rfl) ?_
    refine va_get (D := D) (ci := 5) (v := .ref (ad 10)) (C := RX5) (T := TX5) (N := 20) hx hb hts in_X5 hown hK hP 0 rfl rfl 12 (by decide) (hts _ kf_X5_37) (fun _ h9 => h9) rfl dX5_enter_11 ?_
    refine lv_aload_n hx hb dX5_enter_14 rfl (lv_at hl 0 rfl) ?_
    refine va_get (D := D) (ci := 5) (v := .int (nI (sBc σ))) (C := RX5) (T := TX5) (N := 20) hx hb hts in_X5 hown hK hP 0 rfl rfl 13 (by decide) (hts _ kf_X5_60) (fun _ h9 => h9) rfl dX5_enter_15 ?_
    refine lv_iload_n hx hb dX5_enter_18 rfl (lv_at hl 1 rfl) ?_
    refine ar_p hx hb hK hP (hDD _) hS 10 rfl (x := x) h4 (by decide) dX5_enter_19 (fun H locs hP hS => ?_)
    have hP : va_P D vwCl (rW ad cA (σ.1, σ.2.1, ((upd (sKp σ) (sBc σ) x), (sBc σ)), σ.2.2.2.1, σ.2.2.2.2)) H := hP
    refine lv_aload_n hx hb dX5_enter_20 rfl (lv_at hl 0 rfl) ?_
    refine lv_dup hx hb dX5_enter_21 rfl ?_
    refine va_get (D := D) (ci := 5) (v := .int (nI (sBc σ))) (C := RX5) (T := TX5) (N := 20) hx hb hts in_X5 hown hK hP 0 rfl rfl 13 (by decide) (hts _ kf_X5_60) (fun _ h9 => h9) rfl dX5_enter_22 ?_
    refine lv_iconst (v := 1) hx hb dX5_enter_25 (by decide) ?_
    refine lv_iadd hx hb dX5_enter_26 ?_
    refine tp_i (z := (nI ((sBc σ) + 1))) (nI_1 _) ?_
    refine va_put (D := D) (ci := 5) (v := .int (nI ((sBc σ) + 1))) (ty := .int) (C := RX5) (T := TX5) (N := 20) hx hb hts in_X5 tyX5 tyX5_ok nmX5 hown hK hP (hDD _) hS 0 rfl rfl 13 (by decide) (hts _ kf_X5_60) (fun _ h9 => h9) rfl (by decide +kernel) rfl rfl (Nat.le_of_ble_eq_true rfl) dX5_enter_27 (fun H locs hP _ hS => ?_)
    have hP : va_P D vwCl (rW ad cA (σ.1, σ.2.1, ((upd (sKp σ) (sBc σ) x), ((sBc σ) + 1)), σ.2.2.2.1, σ.2.2.2.2)) H := hP
    exact rt_v (u := (σ.1, σ.2.1, ((upd (sKp σ) (sBc σ) x), ((sBc σ) + 1)), σ.2.2.2.1, σ.2.2.2.2)) hx hb hr hlocks hS hP ((wr_lo h4).symm) dX5_enter_30
set_option maxHeartbeats 4000000 in
set_option maxRecDepth 100000 in
theorem c_X1_has (l : Launch) (D : va_G) (cA : ClassId) (ad : Nat → Nat) (A : Nat → Prop) (hDD : ∀ u, va_D A (cW ad cA u)) (σ : CS) (x : Int32) : Ct l D cA (cW ad cA) A yX1_has cX1_has 2 (some .boolean) 0 0 [.ref (ad 1), .int x] σ (fun r u => r = hz (sKc σ) x ∧ u = σ) := by
  refine Ct.of (by decide) (Nat.le_of_ble_eq_true rfl) ?_
  intro p e s m below meth c ls S0 hr hlocks hK hP hS hl
  obtain ⟨hx, hb, hml, hown, hts⟩ := id S0
  have hl : lv_has ls 2 [(0, .ref (ad 1)), (1, .int x)] := hl
  refine lv_iload_n hx hb dX1_has_0 rfl (lv_at hl 1 rfl) ?_
  refine lv_if_lt (tgt := 16) hx hb dX1_has_1 (by decide) (fun c1 => ?_) (fun c1 => ?_)
  · refine lv_iconst (v := 0) hx hb dX1_has_16 (by decide) ?_
    exact rt_z (v := 0) (u := σ) hx hb hr hlocks rfl hS hP (⟨(hz_0 (ix_lt0 c1)).symm, rfl⟩) dX1_has_17
  · refine lv_iload_n hx hb dX1_has_4 rfl (lv_at hl 1 rfl) ?_
    refine lv_aload_n hx hb dX1_has_5 rfl (lv_at hl 0 rfl) ?_
    refine va_get (D := D) (ci := 1) (v := .int (nI (sKc σ))) (C := RX1) (T := TX1) (N := 5) hx hb hts in_X1 hown hK hP 1 rfl rfl 4 (by decide) (hts _ kf_X1_24) (fun _ h9 => h9) rfl dX1_has_6 ?_
    refine lv_icmp_ge (tgt := 16) hx hb dX1_has_9 (by decide) (fun c9 => ?_) (fun c9 => ?_)
    · refine lv_iconst (v := 0) hx hb dX1_has_16 (by decide) ?_
      exact rt_z (v := 0) (u := σ) hx hb hr hlocks rfl hS hP (⟨(hz_0 (ix_ge c9)).symm, rfl⟩) dX1_has_17
    · refine lv_iconst (v := 1) hx hb dX1_has_12 (by decide) ?_
      refine lv_goto (tgt := 17) hx hb dX1_has_13 (by decide) ?_
      exact rt_z (v := 1) (u := σ) hx hb hr hlocks rfl hS hP (⟨(hz_1 (ix_in c1 c9)).symm, rfl⟩) dX1_has_17
set_option maxHeartbeats 4000000 in
set_option maxRecDepth 100000 in
theorem c_X3_has (l : Launch) (D : va_G) (cA : ClassId) (ad : Nat → Nat) (A : Nat → Prop) (hDD : ∀ u, va_D A (cW ad cA u)) (σ : CS) (x : Int32) : Ct l D cA (cW ad cA) A yX3_has cX3_has 2 (some .boolean) 0 0 [.ref (ad 2), .int x] σ (fun r u => r = hz (sVc σ) x ∧ u = σ) := by
  refine Ct.of (by decide) (Nat.le_of_ble_eq_true rfl) ?_
  intro p e s m below meth c ls S0 hr hlocks hK hP hS hl
  obtain ⟨hx, hb, hml, hown, hts⟩ := id S0
  have hl : lv_has ls 2 [(0, .ref (ad 2)), (1, .int x)] := hl
  refine lv_iload_n hx hb dX3_has_0 rfl (lv_at hl 1 rfl) ?_
  refine lv_if_lt (tgt := 16) hx hb dX3_has_1 (by decide) (fun c1 => ?_) (fun c1 => ?_)
  · refine lv_iconst (v := 0) hx hb dX3_has_16 (by decide) ?_
    exact rt_z (v := 0) (u := σ) hx hb hr hlocks rfl hS hP (⟨(hz_0 (ix_lt0 c1)).symm, rfl⟩) dX3_has_17
  · refine lv_iload_n hx hb dX3_has_4 rfl (lv_at hl 1 rfl) ?_
    refine lv_aload_n hx hb dX3_has_5 rfl (lv_at hl 0 rfl) ?_
    refine va_get (D := D) (ci := 3) (v := .int (nI (sVc σ))) (C := RX3) (T := TX3) (N := 6) hx hb hts in_X3 hown hK hP 2 rfl rfl 5 (by decide) (hts _ kf_X3_27) (fun _ h9 => h9) rfl dX3_has_6 ?_
    refine lv_icmp_ge (tgt := 16) hx hb dX3_has_9 (by decide) (fun c9 => ?_) (fun c9 => ?_)
    · refine lv_iconst (v := 0) hx hb dX3_has_16 (by decide) ?_
      exact rt_z (v := 0) (u := σ) hx hb hr hlocks rfl hS hP (⟨(hz_0 (ix_ge c9)).symm, rfl⟩) dX3_has_17
    · refine lv_iconst (v := 1) hx hb dX3_has_12 (by decide) ?_
      refine lv_goto (tgt := 17) hx hb dX3_has_13 (by decide) ?_
      exact rt_z (v := 1) (u := σ) hx hb hr hlocks rfl hS hP (⟨(hz_1 (ix_in c1 c9)).symm, rfl⟩) dX3_has_17
set_option maxHeartbeats 4000000 in
set_option maxRecDepth 100000 in
theorem c_X5_isKey (l : Launch) (D : va_G) (cA : ClassId) (ad : Nat → Nat) (A : Nat → Prop) (hDD : ∀ u, va_D A (rW ad cA u)) (σ : CS) (x : Int32) : Ct l D cA (rW ad cA) A yX5_isKey cX5_isKey 2 (some .boolean) 0 0 [.ref (ad 0), .int x] σ (fun r u => r = hz (sKc σ) x ∧ u = σ) := by
  refine Ct.of (by decide) (Nat.le_of_ble_eq_true rfl) ?_
  intro p e s m below meth c ls S0 hr hlocks hK hP hS hl
  obtain ⟨hx, hb, hml, hown, hts⟩ := id S0
  have hl : lv_has ls 2 [(0, .ref (ad 0)), (1, .int x)] := hl
  refine lv_iload_n hx hb dX5_isKey_0 rfl (lv_at hl 1 rfl) ?_
  refine lv_if_lt (tgt := 16) hx hb dX5_isKey_1 (by decide) (fun c1 => ?_) (fun c1 => ?_)
  · refine lv_iconst (v := 0) hx hb dX5_isKey_16 (by decide) ?_
    exact rt_z (v := 0) (u := σ) hx hb hr hlocks rfl hS hP (⟨(hz_0 (ix_lt0 c1)).symm, rfl⟩) dX5_isKey_17
  · refine lv_iload_n hx hb dX5_isKey_4 rfl (lv_at hl 1 rfl) ?_
    refine lv_aload_n hx hb dX5_isKey_5 rfl (lv_at hl 0 rfl) ?_
    refine va_get (D := D) (ci := 5) (v := .int (nI (sKc σ))) (C := RX5) (T := TX5) (N := 20) hx hb hts in_X5 hown hK hP 0 rfl rfl 4 (by decide) (hts _ kf_X5_52) (fun _ h9 => h9) rfl dX5_isKey_6 ?_
    refine lv_icmp_ge (tgt := 16) hx hb dX5_isKey_9 (by decide) (fun c9 => ?_) (fun c9 => ?_)
    · refine lv_iconst (v := 0) hx hb dX5_isKey_16 (by decide) ?_
      exact rt_z (v := 0) (u := σ) hx hb hr hlocks rfl hS hP (⟨(hz_0 (ix_ge c9)).symm, rfl⟩) dX5_isKey_17
    · refine lv_iconst (v := 1) hx hb dX5_isKey_12 (by decide) ?_
      refine lv_goto (tgt := 17) hx hb dX5_isKey_13 (by decide) ?_
      exact rt_z (v := 1) (u := σ) hx hb hr hlocks rfl hS hP (⟨(hz_1 (ix_in c1 c9)).symm, rfl⟩) dX5_isKey_17
set_option maxHeartbeats 4000000 in
set_option maxRecDepth 100000 in
theorem c_X5_isVault (l : Launch) (D : va_G) (cA : ClassId) (ad : Nat → Nat) (A : Nat → Prop) (hDD : ∀ u, va_D A (rW ad cA u)) (σ : CS) (x : Int32) : Ct l D cA (rW ad cA) A yX5_isVault cX5_isVault 2 (some .boolean) 0 0 [.ref (ad 0), .int x] σ (fun r u => r = hz (sVc σ) x ∧ u = σ) := by
  refine Ct.of (by decide) (Nat.le_of_ble_eq_true rfl) ?_
  intro p e s m below meth c ls S0 hr hlocks hK hP hS hl
  obtain ⟨hx, hb, hml, hown, hts⟩ := id S0
  have hl : lv_has ls 2 [(0, .ref (ad 0)), (1, .int x)] := hl
  refine lv_iload_n hx hb dX5_isVault_0 rfl (lv_at hl 1 rfl) ?_
  refine lv_if_lt (tgt := 16) hx hb dX5_isVault_1 (by decide) (fun c1 => ?_) (fun c1 => ?_)
  · refine lv_iconst (v := 0) hx hb dX5_isVault_16 (by decide) ?_
    exact rt_z (v := 0) (u := σ) hx hb hr hlocks rfl hS hP (⟨(hz_0 (ix_lt0 c1)).symm, rfl⟩) dX5_isVault_17
  · refine lv_iload_n hx hb dX5_isVault_4 rfl (lv_at hl 1 rfl) ?_
    refine lv_aload_n hx hb dX5_isVault_5 rfl (lv_at hl 0 rfl) ?_
    refine va_get (D := D) (ci := 5) (v := .int (nI (sVc σ))) (C := RX5) (T := TX5) (N := 20) hx hb hts in_X5 hown hK hP 0 rfl rfl 9 (by decide) (hts _ kf_X5_56) (fun _ h9 => h9) rfl dX5_isVault_6 ?_
    refine lv_icmp_ge (tgt := 16) hx hb dX5_isVault_9 (by decide) (fun c9 => ?_) (fun c9 => ?_)
    · refine lv_iconst (v := 0) hx hb dX5_isVault_16 (by decide) ?_
      exact rt_z (v := 0) (u := σ) hx hb hr hlocks rfl hS hP (⟨(hz_0 (ix_ge c9)).symm, rfl⟩) dX5_isVault_17
    · refine lv_iconst (v := 1) hx hb dX5_isVault_12 (by decide) ?_
      refine lv_goto (tgt := 17) hx hb dX5_isVault_13 (by decide) ?_
      exact rt_z (v := 1) (u := σ) hx hb hr hlocks rfl hS hP (⟨(hz_1 (ix_in c1 c9)).symm, rfl⟩) dX5_isVault_17
set_option maxHeartbeats 4000000 in
set_option maxRecDepth 100000 in
theorem c_X0_read (l : Launch) (D : va_G) (cA : ClassId) (ad : Nat → Nat) (A : Nat → Prop) (hDD : ∀ u, va_D A (cW ad cA u)) (σ : CS) (x : Int32) (hb9 : sBc σ < 2147483648) : Ct l D cA (cW ad cA) A yX0_read cX0_read 2 (some .int) 0 0 [.ref (ad 3), .int x] σ (fun r u => r = f_entry σ x ∧ u = σ) := by
  refine Ct.of (by decide) (Nat.le_of_ble_eq_true rfl) ?_
  intro p e s m below meth c ls S0 hr hlocks hK hP hS hl
  obtain ⟨hx, hb, hml, hown, hts⟩ := id S0
  have hl : lv_has ls 2 [(0, .ref (ad 3)), (1, .int x)] := hl
  refine lv_iload_n hx hb dX0_read_0 rfl (lv_at hl 1 rfl) ?_
  refine lv_if_lt (tgt := 28) hx hb dX0_read_1 (by decide) (fun c1 => ?_) (fun c1 => ?_)
  · refine lv_iconst (v := (-1)) hx hb dX0_read_28 (by decide) ?_
    exact rt_i (v := (-1)) (u := σ) hx hb hr hlocks hS hP (⟨(fe_n (ix_lt0 c1)).symm, rfl⟩) dX0_read_29
  · refine lv_iload_n hx hb dX0_read_4 rfl (lv_at hl 1 rfl) ?_
    refine lv_aload_n hx hb dX0_read_5 rfl (lv_at hl 0 rfl) ?_
    refine va_get (D := D) (ci := 0) (v := .int (nI (sBc σ))) (C := RX0) (T := TX0) (N := 2) hx hb hts in_X0 hown hK hP 3 rfl rfl 1 (by decide) (hts _ kf_X0_15) (fun _ h9 => h9) rfl dX0_read_6 ?_
    refine lv_icmp_ge (tgt := 28) hx hb dX0_read_9 (by decide) (fun c9 => ?_) (fun c9 => ?_)
    · refine lv_iconst (v := (-1)) hx hb dX0_read_28 (by decide) ?_
      exact rt_i (v := (-1)) (u := σ) hx hb hr hlocks hS hP (⟨(fe_n (ix_ge c9)).symm, rfl⟩) dX0_read_29
    · obtain ⟨j, hj, rfl⟩ := ix_ex (by omega) c1 c9
      refine lv_iload_n hx hb dX0_read_12 rfl (lv_at hl 1 rfl) ?_
      refine lv_sipush (v := 400) hx hb dX0_read_13 (by decide) ?_
      refine lv_icmp_ge (tgt := 28) hx hb dX0_read_16 (by decide) (fun c16 => ?_) (fun c16 => ?_)
      · refine lv_iconst (v := (-1)) hx hb dX0_read_28 (by decide) ?_
        exact rt_i (v := (-1)) (u := σ) hx hb hr hlocks hS hP (⟨(fe_h (ix_nI hj (by omega)) (Nat.not_lt.mpr (ge_of_c (a := 400) rfl rfl (by omega) (by omega) c16))).symm, rfl⟩) dX0_read_29
      · have h4 : j < 400 := lt_of_c (a := 400) rfl rfl (by omega) (by omega) c16
        refine lv_aload_n hx hb dX0_read_19 rfl (lv_at hl 0 rfl) ?_
        refine va_get (D := D) (ci := 0) (v := .ref (ad 15)) (C := RX0) (T := TX0) (N := 2) hx hb hts in_X0 hown hK hP 3 rfl rfl 0 (by decide) (hts _ kf_X0_9) (fun _ h9 => h9) rfl dX0_read_20 ?_
        refine lv_iload_n hx hb dX0_read_23 rfl (lv_at hl 1 rfl) ?_
        refine ar_g hx hb hK hP 15 rfl h4 (by decide) dX0_read_24 ?_
        refine lv_goto (tgt := 29) hx hb dX0_read_25 (by decide) ?_
        exact rt_i (v := (sKp σ j)) (u := σ) hx hb hr hlocks hS hP (⟨(fe_s (ix_nI hj (by omega)) h4).symm, rfl⟩) dX0_read_29
set_option maxHeartbeats 4000000 in
set_option maxRecDepth 100000 in
theorem c_X5_entry (l : Launch) (D : va_G) (cA : ClassId) (ad : Nat → Nat) (A : Nat → Prop) (hDD : ∀ u, va_D A (rW ad cA u)) (σ : CS) (x : Int32) (hb9 : sBc σ < 2147483648) : Ct l D cA (rW ad cA) A yX5_entry cX5_entry 2 (some .int) 0 0 [.ref (ad 0), .int x] σ (fun r u => r = f_entry σ x ∧ u = σ) := by
  refine Ct.of (by decide) (Nat.le_of_ble_eq_true rfl) ?_
  intro p e s m below meth c ls S0 hr hlocks hK hP hS hl
  obtain ⟨hx, hb, hml, hown, hts⟩ := id S0
  have hl : lv_has ls 2 [(0, .ref (ad 0)), (1, .int x)] := hl
  refine lv_iload_n hx hb dX5_entry_0 rfl (lv_at hl 1 rfl) ?_
  refine lv_if_lt (tgt := 28) hx hb dX5_entry_1 (by decide) (fun c1 => ?_) (fun c1 => ?_)
  · refine lv_iconst (v := (-1)) hx hb dX5_entry_28 (by decide) ?_
    exact rt_i (v := (-1)) (u := σ) hx hb hr hlocks hS hP (⟨(fe_n (ix_lt0 c1)).symm, rfl⟩) dX5_entry_29
  · refine lv_iload_n hx hb dX5_entry_4 rfl (lv_at hl 1 rfl) ?_
    refine lv_aload_n hx hb dX5_entry_5 rfl (lv_at hl 0 rfl) ?_
    refine va_get (D := D) (ci := 5) (v := .int (nI (sBc σ))) (C := RX5) (T := TX5) (N := 20) hx hb hts in_X5 hown hK hP 0 rfl rfl 13 (by decide) (hts _ kf_X5_60) (fun _ h9 => h9) rfl dX5_entry_6 ?_
    refine lv_icmp_ge (tgt := 28) hx hb dX5_entry_9 (by decide) (fun c9 => ?_) (fun c9 => ?_)
    · refine lv_iconst (v := (-1)) hx hb dX5_entry_28 (by decide) ?_
      exact rt_i (v := (-1)) (u := σ) hx hb hr hlocks hS hP (⟨(fe_n (ix_ge c9)).symm, rfl⟩) dX5_entry_29
    · obtain ⟨j, hj, rfl⟩ := ix_ex (by omega) c1 c9
      refine lv_iload_n hx hb dX5_entry_12 rfl (lv_at hl 1 rfl) ?_
      refine lv_sipush (v := 400) hx hb dX5_entry_13 (by decide) ?_
      refine lv_icmp_ge (tgt := 28) hx hb dX5_entry_16 (by decide) (fun c16 => ?_) (fun c16 => ?_)
      · refine lv_iconst (v := (-1)) hx hb dX5_entry_28 (by decide) ?_
        exact rt_i (v := (-1)) (u := σ) hx hb hr hlocks hS hP (⟨(fe_h (ix_nI hj (by omega)) (Nat.not_lt.mpr (ge_of_c (a := 400) rfl rfl (by omega) (by omega) c16))).symm, rfl⟩) dX5_entry_29
      · have h4 : j < 400 := lt_of_c (a := 400) rfl rfl (by omega) (by omega) c16
        refine lv_aload_n hx hb dX5_entry_19 rfl (lv_at hl 0 rfl) ?_
        refine va_get (D := D) (ci := 5) (v := .ref (ad 10)) (C := RX5) (T := TX5) (N := 20) hx hb hts in_X5 hown hK hP 0 rfl rfl 12 (by decide) (hts _ kf_X5_37) (fun _ h9 => h9) rfl dX5_entry_20 ?_
        refine lv_iload_n hx hb dX5_entry_23 rfl (lv_at hl 1 rfl) ?_
        refine ar_g hx hb hK hP 10 rfl h4 (by decide) dX5_entry_24 ?_
        refine lv_goto (tgt := 29) hx hb dX5_entry_25 (by decide) ?_
        exact rt_i (v := (sKp σ j)) (u := σ) hx hb hr hlocks hS hP (⟨(fe_s (ix_nI hj (by omega)) h4).symm, rfl⟩) dX5_entry_29
set_option maxHeartbeats 4000000 in
set_option maxRecDepth 100000 in
theorem c_X1_add (l : Launch) (D : va_G) (cA : ClassId) (ad : Nat → Nat) (A : Nat → Prop) (hDD : ∀ u, va_D A (cW ad cA u)) (σ : CS) (t w : Int32) (hN : sKc σ ≤ 40) : Ct l D cA (cW ad cA) A yX1_add cX1_add 3 (some .int) 0 0 [.ref (ad 1), .int t, .int w] σ (fun r u => r = (a_key σ t w).1 ∧ u = (a_key σ t w).2) := by
  refine Ct.of (by decide) (Nat.le_of_ble_eq_true rfl) ?_
  intro p e s m below meth c ls S0 hr hlocks hK hP hS hl
  obtain ⟨hx, hb, hml, hown, hts⟩ := id S0
  have hl : lv_has ls 3 [(0, .ref (ad 1)), (1, .int t), (2, .int w)] := hl
  refine lv_aload_n hx hb dX1_add_0 rfl (lv_at hl 0 rfl) ?_
  refine va_get (D := D) (ci := 1) (v := .int (nI (sKc σ))) (C := RX1) (T := TX1) (N := 5) hx hb hts in_X1 hown hK hP 1 rfl rfl 4 (by decide) (hts _ kf_X1_24) (fun _ h9 => h9) rfl dX1_add_1 ?_
  refine lv_bipush (v := 40) hx hb dX1_add_4 (by decide) ?_
  refine lv_icmp_lt (tgt := 12) hx hb dX1_add_6 (by decide) (fun c6 => ?_) (fun c6 => ?_)
  · have h4 : sKc σ < 40 := (nI_ltI (b := 40) (by omega) (by decide)).mp c6
    refine lv_aload_n hx hb dX1_add_12 rfl (lv_at hl 0 rfl) ?_
    refine va_get (D := D) (ci := 1) (v := .ref (ad 6)) (C := RX1) (T := TX1) (N := 5) hx hb hts in_X1 hown hK hP 1 rfl rfl 0 (by decide) (hts _ kf_X1_9) (fun _ h9 => h9) rfl dX1_add_13 ?_
    refine lv_aload_n hx hb dX1_add_16 rfl (lv_at hl 0 rfl) ?_
    refine va_get (D := D) (ci := 1) (v := .int (nI (sKc σ))) (C := RX1) (T := TX1) (N := 5) hx hb hts in_X1 hown hK hP 1 rfl rfl 4 (by decide) (hts _ kf_X1_24) (fun _ h9 => h9) rfl dX1_add_17 ?_
    refine lv_iload_n hx hb dX1_add_20 rfl (lv_at hl 1 rfl) ?_
    refine ar_p hx hb hK hP (hDD _) hS 6 rfl (x := t) h4 (by decide) dX1_add_21 (fun H locs hP hS => ?_)
    have hP : va_P D vwCl (cW ad cA (((upd (sTee σ) (sKc σ) t), (sStr σ), (sWea σ), (sHel σ), (sKc σ)), σ.2.1, σ.2.2.1, σ.2.2.2.1, σ.2.2.2.2)) H := hP
    refine lv_aload_n hx hb dX1_add_22 rfl (lv_at hl 0 rfl) ?_
    refine va_get (D := D) (ci := 1) (v := .ref (ad 7)) (C := RX1) (T := TX1) (N := 5) hx hb hts in_X1 hown hK hP 1 rfl rfl 1 (by decide) (hts _ kf_X1_15) (fun _ h9 => h9) rfl dX1_add_23 ?_
    refine lv_aload_n hx hb dX1_add_26 rfl (lv_at hl 0 rfl) ?_
    refine va_get (D := D) (ci := 1) (v := .int (nI (sKc σ))) (C := RX1) (T := TX1) (N := 5) hx hb hts in_X1 hown hK hP 1 rfl rfl 4 (by decide) (hts _ kf_X1_24) (fun _ h9 => h9) rfl dX1_add_27 ?_
    refine lv_iload_n hx hb dX1_add_30 rfl (lv_at hl 2 rfl) ?_
    refine ar_p hx hb hK hP (hDD _) hS 7 rfl (x := w) h4 (by decide) dX1_add_31 (fun H locs hP hS => ?_)
    have hP : va_P D vwCl (cW ad cA (((upd (sTee σ) (sKc σ) t), (upd (sStr σ) (sKc σ) w), (sWea σ), (sHel σ), (sKc σ)), σ.2.1, σ.2.2.1, σ.2.2.2.1, σ.2.2.2.2)) H := hP
    refine lv_aload_n hx hb dX1_add_32 rfl (lv_at hl 0 rfl) ?_
    refine lv_dup hx hb dX1_add_33 rfl ?_
    refine va_get (D := D) (ci := 1) (v := .int (nI (sKc σ))) (C := RX1) (T := TX1) (N := 5) hx hb hts in_X1 hown hK hP 1 rfl rfl 4 (by decide) (hts _ kf_X1_24) (fun _ h9 => h9) rfl dX1_add_34 ?_
    refine lv_iconst (v := 1) hx hb dX1_add_37 (by decide) ?_
    refine lv_iadd hx hb dX1_add_38 ?_
    refine tp_i (z := (nI ((sKc σ) + 1))) (nI_1 _) ?_
    refine va_put (D := D) (ci := 1) (v := .int (nI ((sKc σ) + 1))) (ty := .int) (C := RX1) (T := TX1) (N := 5) hx hb hts in_X1 tyX1 tyX1_ok nmX1 hown hK hP (hDD _) hS 1 rfl rfl 4 (by decide) (hts _ kf_X1_24) (fun _ h9 => h9) rfl (by decide +kernel) rfl rfl (Nat.le_of_ble_eq_true rfl) dX1_add_39 (fun H locs hP _ hS => ?_)
    have hP : va_P D vwCl (cW ad cA (((upd (sTee σ) (sKc σ) t), (upd (sStr σ) (sKc σ) w), (sWea σ), (sHel σ), ((sKc σ) + 1)), σ.2.1, σ.2.2.1, σ.2.2.2.1, σ.2.2.2.2)) H := hP
    refine lv_aload_n hx hb dX1_add_42 rfl (lv_at hl 0 rfl) ?_
    refine va_get (D := D) (ci := 1) (v := .int (nI ((sKc σ) + 1))) (C := RX1) (T := TX1) (N := 5) hx hb hts in_X1 hown hK hP 1 rfl rfl 4 (by decide) (hts _ kf_X1_24) (fun _ h9 => h9) rfl dX1_add_43 ?_
    refine lv_iconst (v := 1) hx hb dX1_add_46 (by decide) ?_
    refine lv_isub hx hb dX1_add_47 ?_
    refine tp_i (z := (nI (sKc σ))) (nI_pred _) ?_
    exact rt_i (v := (nI (sKc σ))) (u := (((upd (sTee σ) (sKc σ) t), (upd (sStr σ) (sKc σ) w), (sWea σ), (sHel σ), ((sKc σ) + 1)), σ.2.1, σ.2.2.1, σ.2.2.2.1, σ.2.2.2.2)) hx hb hr hlocks hS hP (pr2 (by first | (unfold a_key; rw [if_neg (show ¬ sKc σ = 40 by omega)]; done) | (unfold a_key; rw [if_neg (show ¬ sKc σ = 40 by omega)]; rfl))) dX1_add_48
  · refine lv_bipush (v := (-3)) hx hb dX1_add_9 (by decide) ?_
    exact rt_i (v := (-3)) (u := σ) hx hb hr hlocks hS hP (pr2 (by first | (unfold a_key; rw [if_pos (show sKc σ = 40 from Nat.le_antisymm hN (Nat.not_lt.mp fun q => c6 (nI_lt q (by decide))))]; done) | (unfold a_key; rw [if_pos (show sKc σ = 40 from Nat.le_antisymm hN (Nat.not_lt.mp fun q => c6 (nI_lt q (by decide))))]; rfl))) dX1_add_11
set_option maxHeartbeats 4000000 in
set_option maxRecDepth 100000 in
theorem c_X3_add (l : Launch) (D : va_G) (cA : ClassId) (ad : Nat → Nat) (A : Nat → Prop) (hDD : ∀ u, va_D A (cW ad cA u)) (σ : CS) (t : Int32) (hN : sVc σ ≤ 12) : Ct l D cA (cW ad cA) A yX3_add cX3_add 2 (some .int) 0 0 [.ref (ad 2), .int t] σ (fun r u => r = (a_vault σ t).1 ∧ u = (a_vault σ t).2) := by
  refine Ct.of (by decide) (Nat.le_of_ble_eq_true rfl) ?_
  intro p e s m below meth c ls S0 hr hlocks hK hP hS hl
  obtain ⟨hx, hb, hml, hown, hts⟩ := id S0
  have hl : lv_has ls 2 [(0, .ref (ad 2)), (1, .int t)] := hl
  refine lv_aload_n hx hb dX3_add_0 rfl (lv_at hl 0 rfl) ?_
  refine va_get (D := D) (ci := 3) (v := .int (nI (sVc σ))) (C := RX3) (T := TX3) (N := 6) hx hb hts in_X3 hown hK hP 2 rfl rfl 5 (by decide) (hts _ kf_X3_27) (fun _ h9 => h9) rfl dX3_add_1 ?_
  refine lv_bipush (v := 12) hx hb dX3_add_4 (by decide) ?_
  refine lv_icmp_lt (tgt := 12) hx hb dX3_add_6 (by decide) (fun c6 => ?_) (fun c6 => ?_)
  · have h4 : sVc σ < 12 := (nI_ltI (b := 12) (by omega) (by decide)).mp c6
    refine lv_aload_n hx hb dX3_add_12 rfl (lv_at hl 0 rfl) ?_
    refine va_get (D := D) (ci := 3) (v := .ref (ad 10)) (C := RX3) (T := TX3) (N := 6) hx hb hts in_X3 hown hK hP 2 rfl rfl 0 (by decide) (hts _ kf_X3_9) (fun _ h9 => h9) rfl dX3_add_13 ?_
    refine lv_aload_n hx hb dX3_add_16 rfl (lv_at hl 0 rfl) ?_
    refine va_get (D := D) (ci := 3) (v := .int (nI (sVc σ))) (C := RX3) (T := TX3) (N := 6) hx hb hts in_X3 hown hK hP 2 rfl rfl 5 (by decide) (hts _ kf_X3_27) (fun _ h9 => h9) rfl dX3_add_17 ?_
    refine lv_iload_n hx hb dX3_add_20 rfl (lv_at hl 1 rfl) ?_
    refine ar_p hx hb hK hP (hDD _) hS 10 rfl (x := t) h4 (by decide) dX3_add_21 (fun H locs hP hS => ?_)
    have hP : va_P D vwCl (cW ad cA (σ.1, ((upd (sLim σ) (sVc σ) t), (sSm σ), (sNx σ), (sLf σ), (sRt σ), (sVc σ)), σ.2.2.1, σ.2.2.2.1, σ.2.2.2.2)) H := hP
    refine lv_aload_n hx hb dX3_add_22 rfl (lv_at hl 0 rfl) ?_
    refine va_get (D := D) (ci := 3) (v := .ref (ad 12)) (C := RX3) (T := TX3) (N := 6) hx hb hts in_X3 hown hK hP 2 rfl rfl 2 (by decide) (hts _ kf_X3_18) (fun _ h9 => h9) rfl dX3_add_23 ?_
    refine lv_aload_n hx hb dX3_add_26 rfl (lv_at hl 0 rfl) ?_
    refine va_get (D := D) (ci := 3) (v := .int (nI (sVc σ))) (C := RX3) (T := TX3) (N := 6) hx hb hts in_X3 hown hK hP 2 rfl rfl 5 (by decide) (hts _ kf_X3_27) (fun _ h9 => h9) rfl dX3_add_27 ?_
    refine lv_iconst (v := (-1)) hx hb dX3_add_30 (by decide) ?_
    refine ar_p hx hb hK hP (hDD _) hS 12 rfl (x := (-1)) h4 (by decide) dX3_add_31 (fun H locs hP hS => ?_)
    have hP : va_P D vwCl (cW ad cA (σ.1, ((upd (sLim σ) (sVc σ) t), (sSm σ), (upd (sNx σ) (sVc σ) (-1)), (sLf σ), (sRt σ), (sVc σ)), σ.2.2.1, σ.2.2.2.1, σ.2.2.2.2)) H := hP
    refine lv_aload_n hx hb dX3_add_32 rfl (lv_at hl 0 rfl) ?_
    refine va_get (D := D) (ci := 3) (v := .ref (ad 13)) (C := RX3) (T := TX3) (N := 6) hx hb hts in_X3 hown hK hP 2 rfl rfl 3 (by decide) (hts _ kf_X3_21) (fun _ h9 => h9) rfl dX3_add_33 ?_
    refine lv_aload_n hx hb dX3_add_36 rfl (lv_at hl 0 rfl) ?_
    refine va_get (D := D) (ci := 3) (v := .int (nI (sVc σ))) (C := RX3) (T := TX3) (N := 6) hx hb hts in_X3 hown hK hP 2 rfl rfl 5 (by decide) (hts _ kf_X3_27) (fun _ h9 => h9) rfl dX3_add_37 ?_
    refine lv_iconst (v := (-1)) hx hb dX3_add_40 (by decide) ?_
    refine ar_p hx hb hK hP (hDD _) hS 13 rfl (x := (-1)) h4 (by decide) dX3_add_41 (fun H locs hP hS => ?_)
    have hP : va_P D vwCl (cW ad cA (σ.1, ((upd (sLim σ) (sVc σ) t), (sSm σ), (upd (sNx σ) (sVc σ) (-1)), (upd (sLf σ) (sVc σ) (-1)), (sRt σ), (sVc σ)), σ.2.2.1, σ.2.2.2.1, σ.2.2.2.2)) H := hP
    refine lv_aload_n hx hb dX3_add_42 rfl (lv_at hl 0 rfl) ?_
    refine va_get (D := D) (ci := 3) (v := .ref (ad 14)) (C := RX3) (T := TX3) (N := 6) hx hb hts in_X3 hown hK hP 2 rfl rfl 4 (by decide) (hts _ kf_X3_24) (fun _ h9 => h9) rfl dX3_add_43 ?_
    refine lv_aload_n hx hb dX3_add_46 rfl (lv_at hl 0 rfl) ?_
    refine va_get (D := D) (ci := 3) (v := .int (nI (sVc σ))) (C := RX3) (T := TX3) (N := 6) hx hb hts in_X3 hown hK hP 2 rfl rfl 5 (by decide) (hts _ kf_X3_27) (fun _ h9 => h9) rfl dX3_add_47 ?_
    refine lv_iconst (v := (-1)) hx hb dX3_add_50 (by decide) ?_
    refine ar_p hx hb hK hP (hDD _) hS 14 rfl (x := (-1)) h4 (by decide) dX3_add_51 (fun H locs hP hS => ?_)
    have hP : va_P D vwCl (cW ad cA (σ.1, ((upd (sLim σ) (sVc σ) t), (sSm σ), (upd (sNx σ) (sVc σ) (-1)), (upd (sLf σ) (sVc σ) (-1)), (upd (sRt σ) (sVc σ) (-1)), (sVc σ)), σ.2.2.1, σ.2.2.2.1, σ.2.2.2.2)) H := hP
    refine lv_aload_n hx hb dX3_add_52 rfl (lv_at hl 0 rfl) ?_
    refine lv_dup hx hb dX3_add_53 rfl ?_
    refine va_get (D := D) (ci := 3) (v := .int (nI (sVc σ))) (C := RX3) (T := TX3) (N := 6) hx hb hts in_X3 hown hK hP 2 rfl rfl 5 (by decide) (hts _ kf_X3_27) (fun _ h9 => h9) rfl dX3_add_54 ?_
    refine lv_iconst (v := 1) hx hb dX3_add_57 (by decide) ?_
    refine lv_iadd hx hb dX3_add_58 ?_
    refine tp_i (z := (nI ((sVc σ) + 1))) (nI_1 _) ?_
    refine va_put (D := D) (ci := 3) (v := .int (nI ((sVc σ) + 1))) (ty := .int) (C := RX3) (T := TX3) (N := 6) hx hb hts in_X3 tyX3 tyX3_ok nmX3 hown hK hP (hDD _) hS 2 rfl rfl 5 (by decide) (hts _ kf_X3_27) (fun _ h9 => h9) rfl (by decide +kernel) rfl rfl (Nat.le_of_ble_eq_true rfl) dX3_add_59 (fun H locs hP _ hS => ?_)
    have hP : va_P D vwCl (cW ad cA (σ.1, ((upd (sLim σ) (sVc σ) t), (sSm σ), (upd (sNx σ) (sVc σ) (-1)), (upd (sLf σ) (sVc σ) (-1)), (upd (sRt σ) (sVc σ) (-1)), ((sVc σ) + 1)), σ.2.2.1, σ.2.2.2.1, σ.2.2.2.2)) H := hP
    refine lv_aload_n hx hb dX3_add_62 rfl (lv_at hl 0 rfl) ?_
    refine va_get (D := D) (ci := 3) (v := .int (nI ((sVc σ) + 1))) (C := RX3) (T := TX3) (N := 6) hx hb hts in_X3 hown hK hP 2 rfl rfl 5 (by decide) (hts _ kf_X3_27) (fun _ h9 => h9) rfl dX3_add_63 ?_
    refine lv_iconst (v := 1) hx hb dX3_add_66 (by decide) ?_
    refine lv_isub hx hb dX3_add_67 ?_
    refine tp_i (z := (nI (sVc σ))) (nI_pred _) ?_
    exact rt_i (v := (nI (sVc σ))) (u := (σ.1, ((upd (sLim σ) (sVc σ) t), (sSm σ), (upd (sNx σ) (sVc σ) (-1)), (upd (sLf σ) (sVc σ) (-1)), (upd (sRt σ) (sVc σ) (-1)), ((sVc σ) + 1)), σ.2.2.1, σ.2.2.2.1, σ.2.2.2.2)) hx hb hr hlocks hS hP (pr2 (by first | (unfold a_vault; rw [if_neg (show ¬ sVc σ = 12 by omega)]; done) | (unfold a_vault; rw [if_neg (show ¬ sVc σ = 12 by omega)]; rfl))) dX3_add_68
  · refine lv_bipush (v := (-3)) hx hb dX3_add_9 (by decide) ?_
    exact rt_i (v := (-3)) (u := σ) hx hb hr hlocks hS hP (pr2 (by first | (unfold a_vault; rw [if_pos (show sVc σ = 12 from Nat.le_antisymm hN (Nat.not_lt.mp fun q => c6 (nI_lt q (by decide))))]; done) | (unfold a_vault; rw [if_pos (show sVc σ = 12 from Nat.le_antisymm hN (Nat.not_lt.mp fun q => c6 (nI_lt q (by decide))))]; rfl))) dX3_add_11
set_option maxHeartbeats 4000000 in
set_option maxRecDepth 100000 in
theorem c_X2_add (l : Launch) (D : va_G) (cA : ClassId) (ad : Nat → Nat) (A : Nat → Prop) (hDD : ∀ u, va_D A (cW ad cA u)) (σ : CS) (o v w n : Int32) (hN : sTc σ ≤ 32) : Ct l D cA (cW ad cA) A yX2_add cX2_add 5 (some .int) 0 0 [.ref (ad 4), .int o, .int v, .int w, .int n] σ (fun r u => r = (a_ord σ o v w n).1 ∧ u = (a_ord σ o v w n).2) := by
  refine Ct.of (by decide) (Nat.le_of_ble_eq_true rfl) ?_
  intro p e s m below meth c ls S0 hr hlocks hK hP hS hl
  obtain ⟨hx, hb, hml, hown, hts⟩ := id S0
  have hl : lv_has ls 5 [(0, .ref (ad 4)), (1, .int o), (2, .int v), (3, .int w), (4, .int n)] := hl
  refine lv_aload_n hx hb dX2_add_0 rfl (lv_at hl 0 rfl) ?_
  refine va_get (D := D) (ci := 2) (v := .int (nI (sTc σ))) (C := RX2) (T := TX2) (N := 5) hx hb hts in_X2 hown hK hP 4 rfl rfl 4 (by decide) (hts _ kf_X2_24) (fun _ h9 => h9) rfl dX2_add_1 ?_
  refine lv_bipush (v := 32) hx hb dX2_add_4 (by decide) ?_
  refine lv_icmp_lt (tgt := 12) hx hb dX2_add_6 (by decide) (fun c6 => ?_) (fun c6 => ?_)
  · have h4 : sTc σ < 32 := (nI_ltI (b := 32) (by omega) (by decide)).mp c6
    refine lv_aload_n hx hb dX2_add_12 rfl (lv_at hl 0 rfl) ?_
    refine va_get (D := D) (ci := 2) (v := .ref (ad 16)) (C := RX2) (T := TX2) (N := 5) hx hb hts in_X2 hown hK hP 4 rfl rfl 0 (by decide) (hts _ kf_X2_9) (fun _ h9 => h9) rfl dX2_add_13 ?_
    refine lv_aload_n hx hb dX2_add_16 rfl (lv_at hl 0 rfl) ?_
    refine va_get (D := D) (ci := 2) (v := .int (nI (sTc σ))) (C := RX2) (T := TX2) (N := 5) hx hb hts in_X2 hown hK hP 4 rfl rfl 4 (by decide) (hts _ kf_X2_24) (fun _ h9 => h9) rfl dX2_add_17 ?_
    refine lv_iload_n hx hb dX2_add_20 rfl (lv_at hl 1 rfl) ?_
    refine ar_p hx hb hK hP (hDD _) hS 16 rfl (x := o) h4 (by decide) dX2_add_21 (fun H locs hP hS => ?_)
    have hP : va_P D vwCl (cW ad cA (σ.1, σ.2.1, σ.2.2.1, ((upd (sOp σ) (sTc σ) o), (sFi σ), (sSe σ), (sAm σ), (sTc σ)), σ.2.2.2.2)) H := hP
    refine lv_aload_n hx hb dX2_add_22 rfl (lv_at hl 0 rfl) ?_
    refine va_get (D := D) (ci := 2) (v := .ref (ad 17)) (C := RX2) (T := TX2) (N := 5) hx hb hts in_X2 hown hK hP 4 rfl rfl 1 (by decide) (hts _ kf_X2_15) (fun _ h9 => h9) rfl dX2_add_23 ?_
    refine lv_aload_n hx hb dX2_add_26 rfl (lv_at hl 0 rfl) ?_
    refine va_get (D := D) (ci := 2) (v := .int (nI (sTc σ))) (C := RX2) (T := TX2) (N := 5) hx hb hts in_X2 hown hK hP 4 rfl rfl 4 (by decide) (hts _ kf_X2_24) (fun _ h9 => h9) rfl dX2_add_27 ?_
    refine lv_iload_n hx hb dX2_add_30 rfl (lv_at hl 2 rfl) ?_
    refine ar_p hx hb hK hP (hDD _) hS 17 rfl (x := v) h4 (by decide) dX2_add_31 (fun H locs hP hS => ?_)
    have hP : va_P D vwCl (cW ad cA (σ.1, σ.2.1, σ.2.2.1, ((upd (sOp σ) (sTc σ) o), (upd (sFi σ) (sTc σ) v), (sSe σ), (sAm σ), (sTc σ)), σ.2.2.2.2)) H := hP
    refine lv_aload_n hx hb dX2_add_32 rfl (lv_at hl 0 rfl) ?_
    refine va_get (D := D) (ci := 2) (v := .ref (ad 18)) (C := RX2) (T := TX2) (N := 5) hx hb hts in_X2 hown hK hP 4 rfl rfl 2 (by decide) (hts _ kf_X2_18) (fun _ h9 => h9) rfl dX2_add_33 ?_
    refine lv_aload_n hx hb dX2_add_36 rfl (lv_at hl 0 rfl) ?_
    refine va_get (D := D) (ci := 2) (v := .int (nI (sTc σ))) (C := RX2) (T := TX2) (N := 5) hx hb hts in_X2 hown hK hP 4 rfl rfl 4 (by decide) (hts _ kf_X2_24) (fun _ h9 => h9) rfl dX2_add_37 ?_
    refine lv_iload_n hx hb dX2_add_40 rfl (lv_at hl 3 rfl) ?_
    refine ar_p hx hb hK hP (hDD _) hS 18 rfl (x := w) h4 (by decide) dX2_add_41 (fun H locs hP hS => ?_)
    have hP : va_P D vwCl (cW ad cA (σ.1, σ.2.1, σ.2.2.1, ((upd (sOp σ) (sTc σ) o), (upd (sFi σ) (sTc σ) v), (upd (sSe σ) (sTc σ) w), (sAm σ), (sTc σ)), σ.2.2.2.2)) H := hP
    refine lv_aload_n hx hb dX2_add_42 rfl (lv_at hl 0 rfl) ?_
    refine va_get (D := D) (ci := 2) (v := .ref (ad 19)) (C := RX2) (T := TX2) (N := 5) hx hb hts in_X2 hown hK hP 4 rfl rfl 3 (by decide) (hts _ kf_X2_21) (fun _ h9 => h9) rfl dX2_add_43 ?_
    refine lv_aload_n hx hb dX2_add_46 rfl (lv_at hl 0 rfl) ?_
    refine va_get (D := D) (ci := 2) (v := .int (nI (sTc σ))) (C := RX2) (T := TX2) (N := 5) hx hb hts in_X2 hown hK hP 4 rfl rfl 4 (by decide) (hts _ kf_X2_24) (fun _ h9 => h9) rfl dX2_add_47 ?_
    refine lv_iload hx hb dX2_add_50 (lv_at hl 4 rfl) ?_
    refine ar_p hx hb hK hP (hDD _) hS 19 rfl (x := n) h4 (by decide) dX2_add_52 (fun H locs hP hS => ?_)
    have hP : va_P D vwCl (cW ad cA (σ.1, σ.2.1, σ.2.2.1, ((upd (sOp σ) (sTc σ) o), (upd (sFi σ) (sTc σ) v), (upd (sSe σ) (sTc σ) w), (upd (sAm σ) (sTc σ) n), (sTc σ)), σ.2.2.2.2)) H := hP
    refine lv_aload_n hx hb dX2_add_53 rfl (lv_at hl 0 rfl) ?_
    refine lv_dup hx hb dX2_add_54 rfl ?_
    refine va_get (D := D) (ci := 2) (v := .int (nI (sTc σ))) (C := RX2) (T := TX2) (N := 5) hx hb hts in_X2 hown hK hP 4 rfl rfl 4 (by decide) (hts _ kf_X2_24) (fun _ h9 => h9) rfl dX2_add_55 ?_
    refine lv_iconst (v := 1) hx hb dX2_add_58 (by decide) ?_
    refine lv_iadd hx hb dX2_add_59 ?_
    refine tp_i (z := (nI ((sTc σ) + 1))) (nI_1 _) ?_
    refine va_put (D := D) (ci := 2) (v := .int (nI ((sTc σ) + 1))) (ty := .int) (C := RX2) (T := TX2) (N := 5) hx hb hts in_X2 tyX2 tyX2_ok nmX2 hown hK hP (hDD _) hS 4 rfl rfl 4 (by decide) (hts _ kf_X2_24) (fun _ h9 => h9) rfl (by decide +kernel) rfl rfl (Nat.le_of_ble_eq_true rfl) dX2_add_60 (fun H locs hP _ hS => ?_)
    have hP : va_P D vwCl (cW ad cA (σ.1, σ.2.1, σ.2.2.1, ((upd (sOp σ) (sTc σ) o), (upd (sFi σ) (sTc σ) v), (upd (sSe σ) (sTc σ) w), (upd (sAm σ) (sTc σ) n), ((sTc σ) + 1)), σ.2.2.2.2)) H := hP
    refine lv_aload_n hx hb dX2_add_63 rfl (lv_at hl 0 rfl) ?_
    refine va_get (D := D) (ci := 2) (v := .int (nI ((sTc σ) + 1))) (C := RX2) (T := TX2) (N := 5) hx hb hts in_X2 hown hK hP 4 rfl rfl 4 (by decide) (hts _ kf_X2_24) (fun _ h9 => h9) rfl dX2_add_64 ?_
    exact rt_i (v := (nI ((sTc σ) + 1))) (u := (σ.1, σ.2.1, σ.2.2.1, ((upd (sOp σ) (sTc σ) o), (upd (sFi σ) (sTc σ) v), (upd (sSe σ) (sTc σ) w), (upd (sAm σ) (sTc σ) n), ((sTc σ) + 1)), σ.2.2.2.2)) hx hb hr hlocks hS hP (pr2 (by first | (unfold a_ord; rw [if_neg (show ¬ sTc σ = 32 by omega)]; done) | (unfold a_ord; rw [if_neg (show ¬ sTc σ = 32 by omega)]; rfl))) dX2_add_67
  · refine lv_bipush (v := (-3)) hx hb dX2_add_9 (by decide) ?_
    exact rt_i (v := (-3)) (u := σ) hx hb hr hlocks hS hP (pr2 (by first | (unfold a_ord; rw [if_pos (show sTc σ = 32 from Nat.le_antisymm hN (Nat.not_lt.mp fun q => c6 (nI_lt q (by decide))))]; done) | (unfold a_ord; rw [if_pos (show sTc σ = 32 from Nat.le_antisymm hN (Nat.not_lt.mp fun q => c6 (nI_lt q (by decide))))]; rfl))) dX2_add_11
set_option maxHeartbeats 4000000 in
set_option maxRecDepth 100000 in
theorem c_X3_hasHand (l : Launch) (D : va_G) (cA : ClassId) (ad : Nat → Nat) (A : Nat → Prop) (hDD : ∀ u, va_D A (cW ad cA u)) (σ : CS) (v h : Int32) (hvc : sVc σ ≤ 12) : Ct l D cA (cW ad cA) A yX3_hasHand cX3_hasHand 3 (some .boolean) 1 21 [.ref (ad 2), .int v, .int h] σ (fun r u => r = bz ((ix (sVc σ) v).isSome = true ∧ okh h) ∧ u = σ) := by
  refine Ct.of (by decide) (Nat.le_of_ble_eq_true rfl) ?_
  intro p e s m below meth c ls S0 hr hlocks hK hP hS hl
  obtain ⟨hx, hb, hml, hown, hts⟩ := id S0
  have hl : lv_has ls 3 [(0, .ref (ad 2)), (1, .int v), (2, .int h)] := hl
  rcases ix_cases (n := sVc σ) v (by omega) with h0 | ⟨j, hj, rfl⟩
  · refine lv_aload_n hx hb dX3_hasHand_0 rfl (lv_at hl 0 rfl) ?_
    refine lv_iload_n hx hb dX3_hasHand_1 rfl (lv_at hl 1 rfl) ?_
    refine cl_i (rest := []) (c_X3_has l D cA ad A hDD σ v ) ⟨hx, hb, hml, hown, hts⟩ hK hP hS kv_X3_31 ⟨Nat.le_of_ble_eq_true rfl, Nat.le_of_ble_eq_true rfl⟩ ⟨Nat.zero_le _, Nat.zero_le _⟩ 2 rfl rfl rfl hl.1 rfl (Nat.le_of_ble_eq_true rfl) (fun q h => h) dX3_hasHand_2 (fun r u H locs hw hP hS _ => ?_)
    rw [hw.2] at hP
    refine tp_i (z := (hz (sVc σ) v)) hw.1 ?_
    refine tp_i (z := 0) (hz_0 h0) ?_
    refine lv_if_eq (tgt := 21) hx hb dX3_hasHand_5 (by decide) (fun _ => ?_) (fun c9 => absurd (by decide) c9)
    refine lv_iconst (v := 0) hx hb dX3_hasHand_21 (by decide) ?_
    exact rt_z (v := 0) (u := σ) hx hb hr hlocks rfl hS hP (⟨(bz_0 (fun q => ix_none_s h0 q.1)).symm, rfl⟩) dX3_hasHand_22
  · have h0 := ix_nI hj (n := sVc σ) (by omega)
    refine lv_aload_n hx hb dX3_hasHand_0 rfl (lv_at hl 0 rfl) ?_
    refine lv_iload_n hx hb dX3_hasHand_1 rfl (lv_at hl 1 rfl) ?_
    refine cl_i (rest := []) (c_X3_has l D cA ad A hDD σ (nI j) ) ⟨hx, hb, hml, hown, hts⟩ hK hP hS kv_X3_31 ⟨Nat.le_of_ble_eq_true rfl, Nat.le_of_ble_eq_true rfl⟩ ⟨Nat.zero_le _, Nat.zero_le _⟩ 2 rfl rfl rfl hl.1 rfl (Nat.le_of_ble_eq_true rfl) (fun q h => h) dX3_hasHand_2 (fun r u H locs hw hP hS _ => ?_)
    rw [hw.2] at hP
    refine tp_i (z := (hz (sVc σ) (nI j))) hw.1 ?_
    refine tp_i (z := 1) (hz_1 h0) ?_
    refine lv_if_eq (tgt := 21) hx hb dX3_hasHand_5 (by decide) (fun c9 => absurd c9 (by decide)) (fun _ => ?_)
    refine lv_iload_n hx hb dX3_hasHand_8 rfl (lv_at hl 2 rfl) ?_
    refine lv_if_eq (tgt := 17) hx hb dX3_hasHand_9 (by decide) (fun c9 => ?_) (fun c9 => ?_)
    · refine lv_iconst (v := 1) hx hb dX3_hasHand_17 (by decide) ?_
      refine lv_goto (tgt := 22) hx hb dX3_hasHand_18 (by decide) ?_
      exact rt_z (v := 1) (u := σ) hx hb hr hlocks rfl hS hP (⟨(bz_1 ⟨ix_some_s h0, Or.inl c9⟩).symm, rfl⟩) dX3_hasHand_22
    · refine lv_iload_n hx hb dX3_hasHand_12 rfl (lv_at hl 2 rfl) ?_
      refine lv_iconst (v := 1) hx hb dX3_hasHand_13 (by decide) ?_
      refine lv_icmp_ne (tgt := 21) hx hb dX3_hasHand_14 (by decide) (fun c14 => ?_) (fun c14 => ?_)
      · refine lv_iconst (v := 0) hx hb dX3_hasHand_21 (by decide) ?_
        exact rt_z (v := 0) (u := σ) hx hb hr hlocks rfl hS hP (⟨(bz_0 (fun q => q.2.elim c9 c14)).symm, rfl⟩) dX3_hasHand_22
      · refine lv_iconst (v := 1) hx hb dX3_hasHand_17 (by decide) ?_
        refine lv_goto (tgt := 22) hx hb dX3_hasHand_18 (by decide) ?_
        exact rt_z (v := 1) (u := σ) hx hb hr hlocks rfl hS hP (⟨(bz_1 ⟨ix_some_s h0, Or.inr c14⟩).symm, rfl⟩) dX3_hasHand_22
set_option maxHeartbeats 4000000 in
set_option maxRecDepth 100000 in
theorem c_X3_keyAt (l : Launch) (D : va_G) (cA : ClassId) (ad : Nat → Nat) (A : Nat → Prop) (hDD : ∀ u, va_D A (cW ad cA u)) (σ : CS) (j : Nat) (h : Int32) (hj : j < sVc σ) (hvc : sVc σ ≤ 12) : Ct l D cA (cW ad cA) A yX3_keyAt cX3_keyAt 3 (some .int) 1 21 [.ref (ad 2), .int (nI j), .int h] σ (fun r u => r = hd σ j h ∧ u = σ) := by
  refine Ct.of (by decide) (Nat.le_of_ble_eq_true rfl) ?_
  intro p e s m below meth c ls S0 hr hlocks hK hP hS hl
  obtain ⟨hx, hb, hml, hown, hts⟩ := id S0
  have hl : lv_has ls 3 [(0, .ref (ad 2)), (1, .int (nI j)), (2, .int h)] := hl
  refine lv_aload_n hx hb dX3_keyAt_0 rfl (lv_at hl 0 rfl) ?_
  refine lv_iload_n hx hb dX3_keyAt_1 rfl (lv_at hl 1 rfl) ?_
  refine cl_i (rest := []) (c_X3_has l D cA ad A hDD σ (nI j) ) ⟨hx, hb, hml, hown, hts⟩ hK hP hS kv_X3_31 ⟨Nat.le_of_ble_eq_true rfl, Nat.le_of_ble_eq_true rfl⟩ ⟨Nat.zero_le _, Nat.zero_le _⟩ 2 rfl rfl rfl hl.1 rfl (Nat.le_of_ble_eq_true rfl) (fun q h => h) dX3_keyAt_2 (fun r u H locs hw hP hS _ => ?_)
  rw [hw.2] at hP
  refine tp_i (z := (hz (sVc σ) (nI j))) hw.1 ?_
  refine tp_i (z := 1) (hz_1 (ix_nI hj (by omega))) ?_
  refine lv_if_ne (tgt := 10) hx hb dX3_keyAt_5 (by decide) (fun _ => ?_) (fun c9 => absurd c9 (by decide))
  refine lv_iload_n hx hb dX3_keyAt_10 rfl (lv_at hl 2 rfl) ?_
  refine lv_if_ne (tgt := 23) hx hb dX3_keyAt_11 (by decide) (fun c11 => ?_) (fun c11 => ?_)
  · refine lv_aload_n hx hb dX3_keyAt_23 rfl (lv_at hl 0 rfl) ?_
    refine va_get (D := D) (ci := 3) (v := .ref (ad 14)) (C := RX3) (T := TX3) (N := 6) hx hb hts in_X3 hown hK hP 2 rfl rfl 4 (by decide) (hts _ kf_X3_24) (fun _ h9 => h9) rfl dX3_keyAt_24 ?_
    refine lv_iload_n hx hb dX3_keyAt_27 rfl (lv_at hl 1 rfl) ?_
    refine ar_g hx hb hK hP 14 rfl (by omega) (by decide) dX3_keyAt_28 ?_
    exact rt_i (v := (sRt σ j)) (u := σ) hx hb hr hlocks hS hP (⟨(if_neg c11).symm, rfl⟩) dX3_keyAt_29
  · refine lv_aload_n hx hb dX3_keyAt_14 rfl (lv_at hl 0 rfl) ?_
    refine va_get (D := D) (ci := 3) (v := .ref (ad 13)) (C := RX3) (T := TX3) (N := 6) hx hb hts in_X3 hown hK hP 2 rfl rfl 3 (by decide) (hts _ kf_X3_21) (fun _ h9 => h9) rfl dX3_keyAt_15 ?_
    refine lv_iload_n hx hb dX3_keyAt_18 rfl (lv_at hl 1 rfl) ?_
    refine ar_g hx hb hK hP 13 rfl (by omega) (by decide) dX3_keyAt_19 ?_
    refine lv_goto (tgt := 29) hx hb dX3_keyAt_20 (by decide) ?_
    exact rt_i (v := (sLf σ j)) (u := σ) hx hb hr hlocks hS hP (⟨(if_pos c11).symm, rfl⟩) dX3_keyAt_29
set_option maxHeartbeats 4000000 in
set_option maxRecDepth 100000 in
theorem c_X3_setKeyAt (l : Launch) (D : va_G) (cA : ClassId) (ad : Nat → Nat) (A : Nat → Prop) (hDD : ∀ u, va_D A (cW ad cA u)) (σ : CS) (j : Nat) (h k : Int32) (hj : j < sVc σ) (hvc : sVc σ ≤ 12) : Cv l D cA (cW ad cA) A yX3_setKeyAt cX3_setKeyAt 4 1 21 [.ref (ad 2), .int (nI j), .int h, .int k] σ (fun u => u = shk σ j h k) := by
  refine Cv.of (by decide) (Nat.le_of_ble_eq_true rfl) ?_
  intro p e s m below meth c ls S0 hr hlocks hK hP hS hl
  obtain ⟨hx, hb, hml, hown, hts⟩ := id S0
  have hl : lv_has ls 4 [(0, .ref (ad 2)), (1, .int (nI j)), (2, .int h), (3, .int k)] := hl
  refine lv_aload_n hx hb dX3_setKeyAt_0 rfl (lv_at hl 0 rfl) ?_
  refine lv_iload_n hx hb dX3_setKeyAt_1 rfl (lv_at hl 1 rfl) ?_
  refine cl_i (rest := []) (c_X3_has l D cA ad A hDD σ (nI j) ) ⟨hx, hb, hml, hown, hts⟩ hK hP hS kv_X3_31 ⟨Nat.le_of_ble_eq_true rfl, Nat.le_of_ble_eq_true rfl⟩ ⟨Nat.zero_le _, Nat.zero_le _⟩ 2 rfl rfl rfl hl.1 rfl (Nat.le_of_ble_eq_true rfl) (fun q h => h) dX3_setKeyAt_2 (fun r u H locs hw hP hS _ => ?_)
  rw [hw.2] at hP
  refine tp_i (z := (hz (sVc σ) (nI j))) hw.1 ?_
  refine tp_i (z := 1) (hz_1 (ix_nI hj (by omega))) ?_
  refine lv_if_ne (tgt := 9) hx hb dX3_setKeyAt_5 (by decide) (fun _ => ?_) (fun c9 => absurd c9 (by decide))
  refine lv_iload_n hx hb dX3_setKeyAt_9 rfl (lv_at hl 2 rfl) ?_
  refine lv_if_ne (tgt := 23) hx hb dX3_setKeyAt_10 (by decide) (fun c10 => ?_) (fun c10 => ?_)
  · refine lv_aload_n hx hb dX3_setKeyAt_23 rfl (lv_at hl 0 rfl) ?_
    refine va_get (D := D) (ci := 3) (v := .ref (ad 14)) (C := RX3) (T := TX3) (N := 6) hx hb hts in_X3 hown hK hP 2 rfl rfl 4 (by decide) (hts _ kf_X3_24) (fun _ h9 => h9) rfl dX3_setKeyAt_24 ?_
    refine lv_iload_n hx hb dX3_setKeyAt_27 rfl (lv_at hl 1 rfl) ?_
    refine lv_iload_n hx hb dX3_setKeyAt_28 rfl (lv_at hl 3 rfl) ?_
    refine ar_p hx hb hK hP (hDD _) hS 14 rfl (x := k) (by omega) (by decide) dX3_setKeyAt_29 (fun H locs hP hS => ?_)
    have hP : va_P D vwCl (cW ad cA (σ.1, ((sLim σ), (sSm σ), (sNx σ), (sLf σ), (upd (sRt σ) j k), (sVc σ)), σ.2.2.1, σ.2.2.2.1, σ.2.2.2.2)) H := hP
    exact rt_v (u := (σ.1, ((sLim σ), (sSm σ), (sNx σ), (sLf σ), (upd (sRt σ) j k), (sVc σ)), σ.2.2.1, σ.2.2.2.1, σ.2.2.2.2)) hx hb hr hlocks hS hP ((if_neg c10).symm) dX3_setKeyAt_30
  · refine lv_aload_n hx hb dX3_setKeyAt_13 rfl (lv_at hl 0 rfl) ?_
    refine va_get (D := D) (ci := 3) (v := .ref (ad 13)) (C := RX3) (T := TX3) (N := 6) hx hb hts in_X3 hown hK hP 2 rfl rfl 3 (by decide) (hts _ kf_X3_21) (fun _ h9 => h9) rfl dX3_setKeyAt_14 ?_
    refine lv_iload_n hx hb dX3_setKeyAt_17 rfl (lv_at hl 1 rfl) ?_
    refine lv_iload_n hx hb dX3_setKeyAt_18 rfl (lv_at hl 3 rfl) ?_
    refine ar_p hx hb hK hP (hDD _) hS 13 rfl (x := k) (by omega) (by decide) dX3_setKeyAt_19 (fun H locs hP hS => ?_)
    have hP : va_P D vwCl (cW ad cA (σ.1, ((sLim σ), (sSm σ), (sNx σ), (upd (sLf σ) j k), (sRt σ), (sVc σ)), σ.2.2.1, σ.2.2.2.1, σ.2.2.2.2)) H := hP
    refine lv_goto (tgt := 30) hx hb dX3_setKeyAt_20 (by decide) ?_
    exact rt_v (u := (σ.1, ((sLim σ), (sSm σ), (sNx σ), (upd (sLf σ) j k), (sRt σ), (sVc σ)), σ.2.2.1, σ.2.2.2.1, σ.2.2.2.2)) hx hb hr hlocks hS hP ((if_pos c10).symm) dX3_setKeyAt_30
set_option maxHeartbeats 4000000 in
set_option maxRecDepth 100000 in
theorem c_X3_isTooMuch (l : Launch) (D : va_G) (cA : ClassId) (ad : Nat → Nat) (A : Nat → Prop) (hDD : ∀ u, va_D A (cW ad cA u)) (σ : CS) (j : Nat) (n : Int32) (hj : j < sVc σ) (hvc : sVc σ ≤ 12) : Ct l D cA (cW ad cA) A yX3_isTooMuch cX3_isTooMuch 3 (some .boolean) 1 21 [.ref (ad 2), .int (nI j), .int n] σ (fun r u => r = bz (sLim σ j < sSm σ j + n) ∧ u = σ) := by
  refine Ct.of (by decide) (Nat.le_of_ble_eq_true rfl) ?_
  intro p e s m below meth c ls S0 hr hlocks hK hP hS hl
  obtain ⟨hx, hb, hml, hown, hts⟩ := id S0
  have hl : lv_has ls 3 [(0, .ref (ad 2)), (1, .int (nI j)), (2, .int n)] := hl
  refine lv_aload_n hx hb dX3_isTooMuch_0 rfl (lv_at hl 0 rfl) ?_
  refine lv_iload_n hx hb dX3_isTooMuch_1 rfl (lv_at hl 1 rfl) ?_
  refine cl_i (rest := []) (c_X3_has l D cA ad A hDD σ (nI j) ) ⟨hx, hb, hml, hown, hts⟩ hK hP hS kv_X3_31 ⟨Nat.le_of_ble_eq_true rfl, Nat.le_of_ble_eq_true rfl⟩ ⟨Nat.zero_le _, Nat.zero_le _⟩ 2 rfl rfl rfl hl.1 rfl (Nat.le_of_ble_eq_true rfl) (fun q h => h) dX3_isTooMuch_2 (fun r u H locs hw hP hS _ => ?_)
  rw [hw.2] at hP
  refine tp_i (z := (hz (sVc σ) (nI j))) hw.1 ?_
  refine tp_i (z := 1) (hz_1 (ix_nI hj (by omega))) ?_
  refine lv_if_eq (tgt := 29) hx hb dX3_isTooMuch_5 (by decide) (fun c9 => absurd c9 (by decide)) (fun _ => ?_)
  refine lv_aload_n hx hb dX3_isTooMuch_8 rfl (lv_at hl 0 rfl) ?_
  refine va_get (D := D) (ci := 3) (v := .ref (ad 11)) (C := RX3) (T := TX3) (N := 6) hx hb hts in_X3 hown hK hP 2 rfl rfl 1 (by decide) (hts _ kf_X3_15) (fun _ h9 => h9) rfl dX3_isTooMuch_9 ?_
  refine lv_iload_n hx hb dX3_isTooMuch_12 rfl (lv_at hl 1 rfl) ?_
  refine ar_g hx hb hK hP 11 rfl (by omega) (by decide) dX3_isTooMuch_13 ?_
  refine lv_iload_n hx hb dX3_isTooMuch_14 rfl (lv_at hl 2 rfl) ?_
  refine lv_iadd hx hb dX3_isTooMuch_15 ?_
  refine lv_aload_n hx hb dX3_isTooMuch_16 rfl (lv_at hl 0 rfl) ?_
  refine va_get (D := D) (ci := 3) (v := .ref (ad 10)) (C := RX3) (T := TX3) (N := 6) hx hb hts in_X3 hown hK hP 2 rfl rfl 0 (by decide) (hts _ kf_X3_9) (fun _ h9 => h9) rfl dX3_isTooMuch_17 ?_
  refine lv_iload_n hx hb dX3_isTooMuch_20 rfl (lv_at hl 1 rfl) ?_
  refine ar_g hx hb hK hP 10 rfl (by omega) (by decide) dX3_isTooMuch_21 ?_
  refine lv_icmp_le (tgt := 29) hx hb dX3_isTooMuch_22 (by decide) (fun c22 => ?_) (fun c22 => ?_)
  · refine lv_iconst (v := 0) hx hb dX3_isTooMuch_29 (by decide) ?_
    exact rt_z (v := 0) (u := σ) hx hb hr hlocks rfl hS hP (⟨(bz_0 (i_nlt.mpr c22)).symm, rfl⟩) dX3_isTooMuch_30
  · refine lv_iconst (v := 1) hx hb dX3_isTooMuch_25 (by decide) ?_
    refine lv_goto (tgt := 30) hx hb dX3_isTooMuch_26 (by decide) ?_
    exact rt_z (v := 1) (u := σ) hx hb hr hlocks rfl hS hP (⟨(bz_1 (i_nle.mp c22)).symm, rfl⟩) dX3_isTooMuch_30
set_option maxHeartbeats 4000000 in
set_option maxRecDepth 100000 in
theorem c_X4_isWithin (l : Launch) (D : va_G) (cA : ClassId) (ad : Nat → Nat) (A : Nat → Prop) (hDD : ∀ u, va_D A (cW ad cA u)) (σ : CS) (x lo hi : Int32) : Ct l D cA (cW ad cA) A yX4_isWithin cX4_isWithin 3 (some .boolean) 0 0 [.int x, .int lo, .int hi] σ (fun r u => r = bz (lo ≤ x ∧ x ≤ hi) ∧ u = σ) := by
  refine Ct.of (by decide) (Nat.le_of_ble_eq_true rfl) ?_
  intro p e s m below meth c ls S0 hr hlocks hK hP hS hl
  obtain ⟨hx, hb, hml, hown, hts⟩ := id S0
  have hl : lv_has ls 3 [(0, .int x), (1, .int lo), (2, .int hi)] := hl
  refine lv_iload_n hx hb dX4_isWithin_0 rfl (lv_at hl 0 rfl) ?_
  refine lv_iload_n hx hb dX4_isWithin_1 rfl (lv_at hl 1 rfl) ?_
  refine lv_icmp_lt (tgt := 14) hx hb dX4_isWithin_2 (by decide) (fun c2 => ?_) (fun c2 => ?_)
  · refine lv_iconst (v := 0) hx hb dX4_isWithin_14 (by decide) ?_
    exact rt_z (v := 0) (u := σ) hx hb hr hlocks rfl hS hP (⟨(bz_0 (fun q => i_nle.mpr c2 q.1)).symm, rfl⟩) dX4_isWithin_15
  · refine lv_iload_n hx hb dX4_isWithin_5 rfl (lv_at hl 0 rfl) ?_
    refine lv_iload_n hx hb dX4_isWithin_6 rfl (lv_at hl 2 rfl) ?_
    refine lv_icmp_gt (tgt := 14) hx hb dX4_isWithin_7 (by decide) (fun c7 => ?_) (fun c7 => ?_)
    · refine lv_iconst (v := 0) hx hb dX4_isWithin_14 (by decide) ?_
      exact rt_z (v := 0) (u := σ) hx hb hr hlocks rfl hS hP (⟨(bz_0 (fun q => i_nle.mpr c7 q.2)).symm, rfl⟩) dX4_isWithin_15
    · refine lv_iconst (v := 1) hx hb dX4_isWithin_10 (by decide) ?_
      refine lv_goto (tgt := 15) hx hb dX4_isWithin_11 (by decide) ?_
      exact rt_z (v := 1) (u := σ) hx hb hr hlocks rfl hS hP (⟨(bz_1 ⟨i_nlt.mp c2, i_nlt.mp c7⟩).symm, rfl⟩) dX4_isWithin_15
set_option maxHeartbeats 4000000 in
set_option maxRecDepth 100000 in
theorem c_X4_isAmount (l : Launch) (D : va_G) (cA : ClassId) (ad : Nat → Nat) (A : Nat → Prop) (hDD : ∀ u, va_D A (cW ad cA u)) (σ : CS) (x : Int32) : Ct l D cA (cW ad cA) A yX4_isAmount cX4_isAmount 1 (some .boolean) 1 22 [.int x] σ (fun r u => r = bz (amt x) ∧ u = σ) := by
  refine Ct.of (by decide) (Nat.le_of_ble_eq_true rfl) ?_
  intro p e s m below meth c ls S0 hr hlocks hK hP hS hl
  obtain ⟨hx, hb, hml, hown, hts⟩ := id S0
  have hl : lv_has ls 1 [(0, .int x)] := hl
  refine lv_iload_n hx hb dX4_isAmount_0 rfl (lv_at hl 0 rfl) ?_
  refine lv_iconst (v := 0) hx hb dX4_isAmount_1 (by decide) ?_
  refine lv_ldc (v := 1000000) hx hb hown (hts _ kc_X4_56) dX4_isAmount_2 ?_
  refine cl_s (rest := []) (c_X4_isWithin l D cA ad A hDD σ x 0 1000000 ) ⟨hx, hb, hml, hown, hts⟩ hK hP hS kv_X4_48 ⟨Nat.le_of_ble_eq_true rfl, Nat.le_of_ble_eq_true rfl⟩ ⟨Nat.zero_le _, Nat.zero_le _⟩ rfl hl.1 rfl (Nat.le_of_ble_eq_true rfl) (fun q h => h) dX4_isAmount_4 (fun r u H locs hw hP hS => ?_)
  rw [hw.2] at hP
  refine tp_i (z := (bz (0 ≤ x ∧ x ≤ 1000000))) hw.1 ?_
  exact rt_z (v := (bz (0 ≤ x ∧ x ≤ 1000000))) (u := σ) hx hb hr hlocks bz_nar hS hP (⟨rfl, rfl⟩) dX4_isAmount_7
set_option maxHeartbeats 4000000 in
set_option maxRecDepth 100000 in
theorem c_X5_isAmount (l : Launch) (D : va_G) (cA : ClassId) (ad : Nat → Nat) (A : Nat → Prop) (hDD : ∀ u, va_D A (rW ad cA u)) (σ : CS) (x : Int32) : Ct l D cA (rW ad cA) A yX5_isAmount cX5_isAmount 1 (some .boolean) 0 0 [.int x] σ (fun r u => r = bz (amt x) ∧ u = σ) := by
  refine Ct.of (by decide) (Nat.le_of_ble_eq_true rfl) ?_
  intro p e s m below meth c ls S0 hr hlocks hK hP hS hl
  obtain ⟨hx, hb, hml, hown, hts⟩ := id S0
  have hl : lv_has ls 1 [(0, .int x)] := hl
  refine lv_iload_n hx hb dX5_isAmount_0 rfl (lv_at hl 0 rfl) ?_
  refine lv_if_lt (tgt := 14) hx hb dX5_isAmount_1 (by decide) (fun c1 => ?_) (fun c1 => ?_)
  · refine lv_iconst (v := 0) hx hb dX5_isAmount_14 (by decide) ?_
    exact rt_z (v := 0) (u := σ) hx hb hr hlocks rfl hS hP (⟨(bz_0 (fun q => i_nlt.mpr q.1 c1)).symm, rfl⟩) dX5_isAmount_15
  · refine lv_iload_n hx hb dX5_isAmount_4 rfl (lv_at hl 0 rfl) ?_
    refine lv_ldc (v := 1000000) hx hb hown (hts _ kc_X5_59) dX5_isAmount_5 ?_
    refine lv_icmp_gt (tgt := 14) hx hb dX5_isAmount_7 (by decide) (fun c7 => ?_) (fun c7 => ?_)
    · refine lv_iconst (v := 0) hx hb dX5_isAmount_14 (by decide) ?_
      exact rt_z (v := 0) (u := σ) hx hb hr hlocks rfl hS hP (⟨(bz_0 (fun q => i_nle.mpr c7 q.2)).symm, rfl⟩) dX5_isAmount_15
    · refine lv_iconst (v := 1) hx hb dX5_isAmount_10 (by decide) ?_
      refine lv_goto (tgt := 15) hx hb dX5_isAmount_11 (by decide) ?_
      exact rt_z (v := 1) (u := σ) hx hb hr hlocks rfl hS hP (⟨(bz_1 ⟨i_nlt.mp c1, i_nlt.mp c7⟩).symm, rfl⟩) dX5_isAmount_15
set_option maxHeartbeats 4000000 in
set_option maxRecDepth 100000 in
theorem c_X5_isHand (l : Launch) (D : va_G) (cA : ClassId) (ad : Nat → Nat) (A : Nat → Prop) (hDD : ∀ u, va_D A (rW ad cA u)) (σ : CS) (x : Int32) : Ct l D cA (rW ad cA) A yX5_isHand cX5_isHand 1 (some .boolean) 0 0 [.int x] σ (fun r u => r = bz (okh x) ∧ u = σ) := by
  refine Ct.of (by decide) (Nat.le_of_ble_eq_true rfl) ?_
  intro p e s m below meth c ls S0 hr hlocks hK hP hS hl
  obtain ⟨hx, hb, hml, hown, hts⟩ := id S0
  have hl : lv_has ls 1 [(0, .int x)] := hl
  refine lv_iload_n hx hb dX5_isHand_0 rfl (lv_at hl 0 rfl) ?_
  refine lv_if_eq (tgt := 9) hx hb dX5_isHand_1 (by decide) (fun c1 => ?_) (fun c1 => ?_)
  · refine lv_iconst (v := 1) hx hb dX5_isHand_9 (by decide) ?_
    refine lv_goto (tgt := 14) hx hb dX5_isHand_10 (by decide) ?_
    exact rt_z (v := 1) (u := σ) hx hb hr hlocks rfl hS hP (⟨(bz_1 (Or.inl c1)).symm, rfl⟩) dX5_isHand_14
  · refine lv_iload_n hx hb dX5_isHand_4 rfl (lv_at hl 0 rfl) ?_
    refine lv_iconst (v := 1) hx hb dX5_isHand_5 (by decide) ?_
    refine lv_icmp_ne (tgt := 13) hx hb dX5_isHand_6 (by decide) (fun c6 => ?_) (fun c6 => ?_)
    · refine lv_iconst (v := 0) hx hb dX5_isHand_13 (by decide) ?_
      exact rt_z (v := 0) (u := σ) hx hb hr hlocks rfl hS hP (⟨(bz_0 (fun q => q.elim c1 c6)).symm, rfl⟩) dX5_isHand_14
    · refine lv_iconst (v := 1) hx hb dX5_isHand_9 (by decide) ?_
      refine lv_goto (tgt := 14) hx hb dX5_isHand_10 (by decide) ?_
      exact rt_z (v := 1) (u := σ) hx hb hr hlocks rfl hS hP (⟨(bz_1 (Or.inr c6)).symm, rfl⟩) dX5_isHand_14
end
section
set_option maxHeartbeats 4000000 in
set_option maxRecDepth 100000 in
theorem c_X4_turnKey (l : Launch) (D : va_G) (cA : ClassId) (ad : Nat → Nat) (A : Nat → Prop) (hDD : ∀ u, va_D A (cW ad cA u)) (σ : CS) (k : Nat) (hI : Inv σ) (hk : k < sKc σ) (hg : sGr σ < 60) (hb9 : sBc σ < 2147483647) : Ct l D cA (cW ad cA) A yX4_turnKey cX4_turnKey 2 (some .int) 1 21 [.ref (ad 0), .int (nI k)] σ (fun r u => r = (tkc σ k).1 ∧ u = (tkc σ k).2) := by
  refine Ct.of (by decide) (Nat.le_of_ble_eq_true rfl) ?_
  intro p e s m below meth c ls S0 hr hlocks hK hP hS hl
  obtain ⟨hx, hb, hml, hown, hts⟩ := id S0
  have hl : lv_has ls 2 [(0, .ref (ad 0)), (1, .int (nI k))] := hl
  have hkc := hI.kc
  have hvc := hI.vc
  have hgc := hI.gr
  have htc := hI.tc
  refine lv_aload_n hx hb dX4_turnKey_0 rfl (lv_at hl 0 rfl) ?_
  refine va_get (D := D) (ci := 4) (v := .ref (ad 1)) (C := RX4) (T := TX4) (N := 7) hx hb hts in_X4 hown hK hP 0 rfl rfl 0 (by decide) (hts _ kf_X4_10) (fun _ h9 => h9) rfl dX4_turnKey_1 ?_
  refine va_get (D := D) (ci := 1) (v := .ref (ad 9)) (C := RX1) (T := TX1) (N := 5) hx hb hts in_X1 hown hK hP 1 rfl rfl 3 (by decide) (hts _ kf_X4_135) (fun _ h9 => h9) rfl dX4_turnKey_4 ?_
  refine lv_iload_n hx hb dX4_turnKey_7 rfl (lv_at hl 1 rfl) ?_
  refine ar_g hx hb hK hP 9 rfl (by omega) (by decide) dX4_turnKey_8 ?_
  refine lv_aload_n hx hb dX4_turnKey_9 rfl (lv_at hl 0 rfl) ?_
  refine va_get (D := D) (ci := 4) (v := .ref (ad 1)) (C := RX4) (T := TX4) (N := 7) hx hb hts in_X4 hown hK hP 0 rfl rfl 0 (by decide) (hts _ kf_X4_10) (fun _ h9 => h9) rfl dX4_turnKey_10 ?_
  refine va_get (D := D) (ci := 1) (v := .ref (ad 6)) (C := RX1) (T := TX1) (N := 5) hx hb hts in_X1 hown hK hP 1 rfl rfl 0 (by decide) (hts _ kf_X4_138) (fun _ h9 => h9) rfl dX4_turnKey_13 ?_
  refine lv_iload_n hx hb dX4_turnKey_16 rfl (lv_at hl 1 rfl) ?_
  refine ar_g hx hb hK hP 6 rfl (by omega) (by decide) dX4_turnKey_17 ?_
  refine lv_icmp_ge (tgt := 33) hx hb dX4_turnKey_18 (by decide) (fun c18 => ?_) (fun c18 => ?_)
  · refine lv_aload_n hx hb dX4_turnKey_33 rfl (lv_at hl 0 rfl) ?_
    refine va_get (D := D) (ci := 4) (v := .ref (ad 3)) (C := RX4) (T := TX4) (N := 7) hx hb hts in_X4 hown hK hP 0 rfl rfl 2 (by decide) (hts _ kf_X4_26) (fun _ h9 => h9) rfl dX4_turnKey_34 ?_
    refine lv_sipush (v := 700) hx hb dX4_turnKey_37 (by decide) ?_
    refine lv_iload_n hx hb dX4_turnKey_40 rfl (lv_at hl 1 rfl) ?_
    refine lv_iadd hx hb dX4_turnKey_41 ?_
    refine cl_v (rest := []) (c_X0_write l D cA ad A hDD σ (700 + (nI k)) hb9) ⟨hx, hb, hml, hown, hts⟩ hK hP hS kv_X4_131 ⟨Nat.le_of_ble_eq_true rfl, Nat.le_of_ble_eq_true rfl⟩ ⟨Nat.zero_le _, Nat.zero_le _⟩ 3 rfl rfl rfl hl.1 rfl (Nat.le_of_ble_eq_true rfl) (fun q h => h) dX4_turnKey_42 (fun u H locs hw hP hS _ => ?_)
    rw [hw] at hP
    refine lv_bipush (v := (-7)) hx hb dX4_turnKey_45 (by decide) ?_
    exact rt_i (v := (-7)) (u := (wr (700 + (nI k)) σ)) hx hb hr hlocks hS hP (pr2 (by first | (unfold tkc; rw [if_pos ((hel_ge hI hk).mp c18)]; done) | (unfold tkc; rw [if_pos ((hel_ge hI hk).mp c18)]; rfl))) dX4_turnKey_47
  · refine lv_aload_n hx hb dX4_turnKey_21 rfl (lv_at hl 0 rfl) ?_
    refine va_get (D := D) (ci := 4) (v := .int (nI (sGr σ))) (C := RX4) (T := TX4) (N := 7) hx hb hts in_X4 hown hK hP 0 rfl rfl 5 (by decide) (hts _ kf_X4_41) (fun _ h9 => h9) rfl dX4_turnKey_22 ?_
    refine lv_aload_n hx hb dX4_turnKey_25 rfl (lv_at hl 0 rfl) ?_
    refine va_get (D := D) (ci := 4) (v := .ref (ad 5)) (C := RX4) (T := TX4) (N := 7) hx hb hts in_X4 hown hK hP 0 rfl rfl 4 (by decide) (hts _ kf_X4_37) (fun _ h9 => h9) rfl dX4_turnKey_26 ?_
    refine va_alen (v := 60) hx hb hK hP 5 0 rfl rfl rfl dX4_turnKey_29 ?_
    refine lv_icmp_lt (tgt := 48) hx hb dX4_turnKey_30 (by decide) (fun _ => ?_) (fun c9 => absurd (nI_lt (b := 60) hg (by decide)) c9)
    refine lv_aload_n hx hb dX4_turnKey_48 rfl (lv_at hl 0 rfl) ?_
    refine va_get (D := D) (ci := 4) (v := .ref (ad 1)) (C := RX4) (T := TX4) (N := 7) hx hb hts in_X4 hown hK hP 0 rfl rfl 0 (by decide) (hts _ kf_X4_10) (fun _ h9 => h9) rfl dX4_turnKey_49 ?_
    refine va_get (D := D) (ci := 1) (v := .ref (ad 8)) (C := RX1) (T := TX1) (N := 5) hx hb hts in_X1 hown hK hP 1 rfl rfl 2 (by decide) (hts _ kf_X4_100) (fun _ h9 => h9) rfl dX4_turnKey_52 ?_
    refine lv_iload_n hx hb dX4_turnKey_55 rfl (lv_at hl 1 rfl) ?_
    refine lv_dup2_11 hx hb dX4_turnKey_56 rfl rfl ?_
    refine ar_g hx hb hK hP 8 rfl (by omega) (by decide) dX4_turnKey_57 ?_
    refine lv_aload_n hx hb dX4_turnKey_58 rfl (lv_at hl 0 rfl) ?_
    refine va_get (D := D) (ci := 4) (v := .ref (ad 1)) (C := RX4) (T := TX4) (N := 7) hx hb hts in_X4 hown hK hP 0 rfl rfl 0 (by decide) (hts _ kf_X4_10) (fun _ h9 => h9) rfl dX4_turnKey_59 ?_
    refine va_get (D := D) (ci := 1) (v := .ref (ad 7)) (C := RX1) (T := TX1) (N := 5) hx hb hts in_X1 hown hK hP 1 rfl rfl 1 (by decide) (hts _ kf_X4_141) (fun _ h9 => h9) rfl dX4_turnKey_62 ?_
    refine lv_iload_n hx hb dX4_turnKey_65 rfl (lv_at hl 1 rfl) ?_
    refine ar_g hx hb hK hP 7 rfl (by omega) (by decide) dX4_turnKey_66 ?_
    refine lv_iadd hx hb dX4_turnKey_67 ?_
    refine ar_p hx hb hK hP (hDD _) hS 8 rfl (x := ((sWea σ k) + (sStr σ k))) (by omega) (by decide) dX4_turnKey_68 (fun H locs hP hS => ?_)
    have hP : va_P D vwCl (cW ad cA (((sTee σ), (sStr σ), (upd (sWea σ) k ((sWea σ k) + (sStr σ k))), (sHel σ), (sKc σ)), σ.2.1, σ.2.2.1, σ.2.2.2.1, σ.2.2.2.2)) H := hP
    refine lv_aload_n hx hb dX4_turnKey_69 rfl (lv_at hl 0 rfl) ?_
    refine va_get (D := D) (ci := 4) (v := .ref (ad 1)) (C := RX4) (T := TX4) (N := 7) hx hb hts in_X4 hown hK hP 0 rfl rfl 0 (by decide) (hts _ kf_X4_10) (fun _ h9 => h9) rfl dX4_turnKey_70 ?_
    refine va_get (D := D) (ci := 1) (v := .ref (ad 9)) (C := RX1) (T := TX1) (N := 5) hx hb hts in_X1 hown hK hP 1 rfl rfl 3 (by decide) (hts _ kf_X4_135) (fun _ h9 => h9) rfl dX4_turnKey_73 ?_
    refine lv_iload_n hx hb dX4_turnKey_76 rfl (lv_at hl 1 rfl) ?_
    refine lv_dup2_11 hx hb dX4_turnKey_77 rfl rfl ?_
    refine ar_g hx hb hK hP 9 rfl (by omega) (by decide) dX4_turnKey_78 ?_
    refine lv_iconst (v := 1) hx hb dX4_turnKey_79 (by decide) ?_
    refine lv_iadd hx hb dX4_turnKey_80 ?_
    refine ar_p hx hb hK hP (hDD _) hS 9 rfl (x := ((sHel σ k) + 1)) (by omega) (by decide) dX4_turnKey_81 (fun H locs hP hS => ?_)
    have hP : va_P D vwCl (cW ad cA (((sTee σ), (sStr σ), (upd (sWea σ) k ((sWea σ k) + (sStr σ k))), (upd (sHel σ) k ((sHel σ k) + 1)), (sKc σ)), σ.2.1, σ.2.2.1, σ.2.2.2.1, σ.2.2.2.2)) H := hP
    refine lv_aload_n hx hb dX4_turnKey_82 rfl (lv_at hl 0 rfl) ?_
    refine va_get (D := D) (ci := 4) (v := .ref (ad 5)) (C := RX4) (T := TX4) (N := 7) hx hb hts in_X4 hown hK hP 0 rfl rfl 4 (by decide) (hts _ kf_X4_37) (fun _ h9 => h9) rfl dX4_turnKey_83 ?_
    refine lv_aload_n hx hb dX4_turnKey_86 rfl (lv_at hl 0 rfl) ?_
    refine va_get (D := D) (ci := 4) (v := .int (nI (sGr σ))) (C := RX4) (T := TX4) (N := 7) hx hb hts in_X4 hown hK hP 0 rfl rfl 5 (by decide) (hts _ kf_X4_41) (fun _ h9 => h9) rfl dX4_turnKey_87 ?_
    refine lv_iload_n hx hb dX4_turnKey_90 rfl (lv_at hl 1 rfl) ?_
    refine ar_p hx hb hK hP (hDD _) hS 5 rfl (x := (nI k)) hg (by decide) dX4_turnKey_91 (fun H locs hP hS => ?_)
    have hP : va_P D vwCl (cW ad cA (((sTee σ), (sStr σ), (upd (sWea σ) k ((sWea σ k) + (sStr σ k))), (upd (sHel σ) k ((sHel σ k) + 1)), (sKc σ)), σ.2.1, σ.2.2.1, σ.2.2.2.1, ((upd (sGp σ) (sGr σ) (nI k)), (sGr σ), (sAl σ)))) H := hP
    refine lv_aload_n hx hb dX4_turnKey_92 rfl (lv_at hl 0 rfl) ?_
    refine lv_dup hx hb dX4_turnKey_93 rfl ?_
    refine va_get (D := D) (ci := 4) (v := .int (nI (sGr σ))) (C := RX4) (T := TX4) (N := 7) hx hb hts in_X4 hown hK hP 0 rfl rfl 5 (by decide) (hts _ kf_X4_41) (fun _ h9 => h9) rfl dX4_turnKey_94 ?_
    refine lv_iconst (v := 1) hx hb dX4_turnKey_97 (by decide) ?_
    refine lv_iadd hx hb dX4_turnKey_98 ?_
    refine tp_i (z := (nI ((sGr σ) + 1))) (nI_1 _) ?_
    refine va_put (D := D) (ci := 4) (v := .int (nI ((sGr σ) + 1))) (ty := .int) (C := RX4) (T := TX4) (N := 7) hx hb hts in_X4 tyX4 tyX4_ok nmX4 hown hK hP (hDD _) hS 0 rfl rfl 5 (by decide) (hts _ kf_X4_41) (fun _ h9 => h9) rfl (by decide +kernel) rfl rfl (Nat.le_of_ble_eq_true rfl) dX4_turnKey_99 (fun H locs hP _ hS => ?_)
    have hP : va_P D vwCl (cW ad cA (((sTee σ), (sStr σ), (upd (sWea σ) k ((sWea σ k) + (sStr σ k))), (upd (sHel σ) k ((sHel σ k) + 1)), (sKc σ)), σ.2.1, σ.2.2.1, σ.2.2.2.1, ((upd (sGp σ) (sGr σ) (nI k)), ((sGr σ) + 1), (sAl σ)))) H := hP
    refine lv_aload_n hx hb dX4_turnKey_102 rfl (lv_at hl 0 rfl) ?_
    refine va_get (D := D) (ci := 4) (v := .ref (ad 3)) (C := RX4) (T := TX4) (N := 7) hx hb hts in_X4 hown hK hP 0 rfl rfl 2 (by decide) (hts _ kf_X4_26) (fun _ h9 => h9) rfl dX4_turnKey_103 ?_
    refine lv_bipush (v := 100) hx hb dX4_turnKey_106 (by decide) ?_
    refine lv_iload_n hx hb dX4_turnKey_108 rfl (lv_at hl 1 rfl) ?_
    refine lv_iadd hx hb dX4_turnKey_109 ?_
    refine cl_v (rest := []) (c_X0_write l D cA ad A hDD (((sTee σ), (sStr σ), (upd (sWea σ) k ((sWea σ k) + (sStr σ k))), (upd (sHel σ) k ((sHel σ k) + 1)), (sKc σ)), σ.2.1, σ.2.2.1, σ.2.2.2.1, ((upd (sGp σ) (sGr σ) (nI k)), ((sGr σ) + 1), (sAl σ))) (100 + (nI k)) hb9) ⟨hx, hb, hml, hown, hts⟩ hK hP hS kv_X4_131 ⟨Nat.le_of_ble_eq_true rfl, Nat.le_of_ble_eq_true rfl⟩ ⟨Nat.zero_le _, Nat.zero_le _⟩ 3 rfl rfl rfl hl.1 rfl (Nat.le_of_ble_eq_true rfl) (fun q h => h) dX4_turnKey_110 (fun u H locs hw hP hS _ => ?_)
    rw [hw] at hP
    refine lv_iconst (v := 0) hx hb dX4_turnKey_113 (by decide) ?_
    exact rt_i (v := 0) (u := (wr (100 + (nI k)) (((sTee σ), (sStr σ), (upd (sWea σ) k ((sWea σ k) + (sStr σ k))), (upd (sHel σ) k ((sHel σ k) + 1)), (sKc σ)), σ.2.1, σ.2.2.1, σ.2.2.2.1, ((upd (sGp σ) (sGr σ) (nI k)), ((sGr σ) + 1), (sAl σ))))) hx hb hr hlocks hS hP (pr2 (by first | (unfold tkc; rw [if_neg (fun q => c18 ((hel_ge hI hk).mpr q))]; done) | (unfold tkc; rw [if_neg (fun q => c18 ((hel_ge hI hk).mpr q))]; rfl))) dX4_turnKey_114
set_option maxHeartbeats 4000000 in
set_option maxRecDepth 100000 in
theorem c_X4_turnHand (l : Launch) (D : va_G) (cA : ClassId) (ad : Nat → Nat) (A : Nat → Prop) (hDD : ∀ u, va_D A (cW ad cA u)) (σ : CS) (j : Nat) (h x : Int32) (hxe : hd σ j h = x) (hX : HX (sKc σ) x) (hI : Inv σ) (hj : j < sVc σ) (hg : sGr σ < 60) (hb9 : sBc σ < 2147483647) : Ct l D cA (cW ad cA) A yX4_turnHand cX4_turnHand 4 (some .int) 2 43 [.ref (ad 0), .int (nI j), .int h] σ (fun r u => r = thc (th σ x h).1 ∧ u = (th σ x h).2) := by
  refine Ct.of (by decide) (Nat.le_of_ble_eq_true rfl) ?_
  intro p e s m below meth c ls S0 hr hlocks hK hP hS hl
  obtain ⟨hx, hb, hml, hown, hts⟩ := id S0
  have hl : lv_has ls 4 [(0, .ref (ad 0)), (1, .int (nI j)), (2, .int h)] := hl
  have hkc := hI.kc
  have hvc := hI.vc
  have hgc := hI.gr
  have htc := hI.tc
  refine lv_aload_n hx hb dX4_turnHand_0 rfl (lv_at hl 0 rfl) ?_
  refine va_get (D := D) (ci := 4) (v := .ref (ad 2)) (C := RX4) (T := TX4) (N := 7) hx hb hts in_X4 hown hK hP 0 rfl rfl 1 (by decide) (hts _ kf_X4_19) (fun _ h9 => h9) rfl dX4_turnHand_1 ?_
  refine lv_iload_n hx hb dX4_turnHand_4 rfl (lv_at hl 1 rfl) ?_
  refine lv_iload_n hx hb dX4_turnHand_5 rfl (lv_at hl 2 rfl) ?_
  refine cl_i (rest := []) (c_X3_keyAt l D cA ad A hDD σ j h hj hvc) ⟨hx, hb, hml, hown, hts⟩ hK hP hS kv_X4_68 ⟨Nat.le_of_ble_eq_true rfl, Nat.le_of_ble_eq_true rfl⟩ ⟨Nat.zero_le _, Nat.zero_le _⟩ 2 rfl rfl rfl hl.1 rfl (Nat.le_of_ble_eq_true rfl) (fun q h => h) dX4_turnHand_6 (fun r u H locs hw hP hS _ => ?_)
  rw [hw.2] at hP
  refine tp_i (z := (hd σ j h)) hw.1 ?_
  refine tp_i (z := x) (hxe) ?_
  refine lv_istore_n (lv' := [(3, .int x), (0, .ref (ad 0)), (1, .int (nI j)), (2, .int h)]) hx hb dX4_turnHand_9 rfl hl (by decide) rfl (fun ls hl => ?_)
  rcases hX with rfl | ⟨k, hk, rfl⟩
  · have h0 : ix (sKc σ) (-1) = none := ix_lt0 (by decide)
    refine lv_aload_n hx hb dX4_turnHand_10 rfl (lv_at hl 1 rfl) ?_
    refine va_get (D := D) (ci := 4) (v := .ref (ad 1)) (C := RX4) (T := TX4) (N := 7) hx hb hts in_X4 hown hK hP 0 rfl rfl 0 (by decide) (hts _ kf_X4_10) (fun _ h9 => h9) rfl dX4_turnHand_11 ?_
    refine lv_iload_n hx hb dX4_turnHand_14 rfl (lv_at hl 0 rfl) ?_
    refine cl_i (rest := []) (c_X1_has l D cA ad A hDD σ (-1) ) ⟨hx, hb, hml, hown, hts⟩ hK hP hS kv_X4_64 ⟨Nat.le_of_ble_eq_true rfl, Nat.le_of_ble_eq_true rfl⟩ ⟨Nat.zero_le _, Nat.zero_le _⟩ 1 rfl rfl rfl hl.1 rfl (Nat.le_of_ble_eq_true rfl) (fun q h => h) dX4_turnHand_15 (fun r u H locs hw hP hS _ => ?_)
    rw [hw.2] at hP
    refine tp_i (z := (hz (sKc σ) (-1))) hw.1 ?_
    refine tp_i (z := 0) (hz_0 h0) ?_
    refine lv_if_ne (tgt := 34) hx hb dX4_turnHand_18 (by decide) (fun c9 => absurd (by decide) c9) (fun _ => ?_)
    refine lv_aload_n hx hb dX4_turnHand_21 rfl (lv_at hl 1 rfl) ?_
    refine va_get (D := D) (ci := 4) (v := .ref (ad 3)) (C := RX4) (T := TX4) (N := 7) hx hb hts in_X4 hown hK hP 0 rfl rfl 2 (by decide) (hts _ kf_X4_26) (fun _ h9 => h9) rfl dX4_turnHand_22 ?_
    refine lv_bipush (v := 10) hx hb dX4_turnHand_25 (by decide) ?_
    refine lv_iload_n hx hb dX4_turnHand_27 rfl (lv_at hl 3 rfl) ?_
    refine lv_iadd hx hb dX4_turnHand_28 ?_
    refine cl_v (rest := []) (c_X0_write l D cA ad A hDD σ (10 + h) hb9) ⟨hx, hb, hml, hown, hts⟩ hK hP hS kv_X4_131 ⟨Nat.le_of_ble_eq_true rfl, Nat.le_of_ble_eq_true rfl⟩ ⟨Nat.zero_le _, Nat.zero_le _⟩ 3 rfl rfl rfl hl.1 rfl (Nat.le_of_ble_eq_true rfl) (fun q h => h) dX4_turnHand_29 (fun u H locs hw hP hS _ => ?_)
    rw [hw] at hP
    refine lv_iconst (v := 1) hx hb dX4_turnHand_32 (by decide) ?_
    exact rt_i (v := 1) (u := (wr (10 + h) σ)) hx hb hr hlocks hS hP ((by rw [th_b]; exact ⟨rfl, rfl⟩)) dX4_turnHand_33
  · have h0 := ix_nI hk (n := sKc σ) (by omega)
    refine lv_aload_n hx hb dX4_turnHand_10 rfl (lv_at hl 1 rfl) ?_
    refine va_get (D := D) (ci := 4) (v := .ref (ad 1)) (C := RX4) (T := TX4) (N := 7) hx hb hts in_X4 hown hK hP 0 rfl rfl 0 (by decide) (hts _ kf_X4_10) (fun _ h9 => h9) rfl dX4_turnHand_11 ?_
    refine lv_iload_n hx hb dX4_turnHand_14 rfl (lv_at hl 0 rfl) ?_
    refine cl_i (rest := []) (c_X1_has l D cA ad A hDD σ (nI k) ) ⟨hx, hb, hml, hown, hts⟩ hK hP hS kv_X4_64 ⟨Nat.le_of_ble_eq_true rfl, Nat.le_of_ble_eq_true rfl⟩ ⟨Nat.zero_le _, Nat.zero_le _⟩ 1 rfl rfl rfl hl.1 rfl (Nat.le_of_ble_eq_true rfl) (fun q h => h) dX4_turnHand_15 (fun r u H locs hw hP hS _ => ?_)
    rw [hw.2] at hP
    refine tp_i (z := (hz (sKc σ) (nI k))) hw.1 ?_
    refine tp_i (z := 1) (hz_1 h0) ?_
    refine lv_if_ne (tgt := 34) hx hb dX4_turnHand_18 (by decide) (fun _ => ?_) (fun c9 => absurd c9 (by decide))
    refine lv_aload_n hx hb dX4_turnHand_34 rfl (lv_at hl 1 rfl) ?_
    refine lv_iload_n hx hb dX4_turnHand_35 rfl (lv_at hl 0 rfl) ?_
    refine cl_i (rest := []) (c_X4_turnKey l D cA ad A hDD σ k hI hk hg hb9) ⟨hx, hb, hml, hown, hts⟩ hK hP hS kv_X4_97 ⟨Nat.le_of_ble_eq_true rfl, Nat.le_of_ble_eq_true rfl⟩ ⟨Nat.zero_le _, Nat.zero_le _⟩ 0 rfl rfl rfl hl.1 rfl (Nat.le_of_ble_eq_true rfl) (fun q h => h) dX4_turnHand_36 (fun r u H locs hw hP hS _ => ?_)
    rw [hw.2] at hP
    refine tp_i (z := (tkc σ k).1) hw.1 ?_
    exact rt_i (v := (tkc σ k).1) (u := (tkc σ k).2) hx hb hr hlocks hS hP (tkc_th h (by omega)) dX4_turnHand_39
set_option maxHeartbeats 4000000 in
set_option maxRecDepth 100000 in
theorem c_X4_letGo (l : Launch) (D : va_G) (cA : ClassId) (ad : Nat → Nat) (A : Nat → Prop) (hDD : ∀ u, va_D A (cW ad cA u)) (σ : CS) (w a : Int32) (hI : Inv σ) (hb9 : sBc σ + sGr σ < 2147483647) : Ct l D cA (cW ad cA) A yX4_letGo cX4_letGo 5 (some .int) 1 21 [.ref (ad 0), .int w, .int a] σ (fun r u => r = a ∧ u = da w σ) := by
  refine Ct.of (by decide) (Nat.le_of_ble_eq_true rfl) ?_
  intro p e s m below meth c ls S0 hr hlocks hK hP hS hl
  obtain ⟨hx, hb, hml, hown, hts⟩ := id S0
  have hl : lv_has ls 5 [(0, .ref (ad 0)), (1, .int w), (2, .int a)] := hl
  have loop : ∀ (j : Nat) (τ : CS) (H : Heap) (locs : List Loc) (ls : Array Slot), InvK τ.1 (sGp σ, j, sAl σ) → sGp τ = sGp σ → sBc τ + j < 2147483647 → sgr (dr w (sGp σ) j τ) 0 = da w σ → va_P D vwCl (cW ad cA τ) H → va_S A s.heap H locs → lv_has ls 5 [(3, .int (nI j - 1)), (0, .ref (ad 0)), (1, .int w), (2, .int a)] → W p l e { frames := 1, cells := 0, slots := 0, locals := 21 } s m ([.ref (ad 0), .int w, .int a] : List Value).toArray below meth c H locs 0 0 (MQ below (va_Qi (fun r u => r = a ∧ u = da w σ) (fun u t => va_P D vwCl (cW ad cA u) t.heap) A) ([.ref (ad 0), .int w, .int a] : List Value).toArray s 0 0 A) (F0 m 7 ls []) := by
    intro j
    induction j with
    | zero =>
      intro τ H locs ls hK1 hg hb1 hE hP hS hl
      refine lv_iload_n hx hb dX4_letGo_7 rfl (lv_at hl 0 rfl) ?_
      refine lv_if_lt (tgt := 50) hx hb dX4_letGo_8 (by decide) (fun _ => ?_) (fun c9 => absurd (by decide) c9)
      refine lv_aload_n hx hb dX4_letGo_50 rfl (lv_at hl 1 rfl) ?_
      refine lv_iconst (v := 0) hx hb dX4_letGo_51 (by decide) ?_
      refine tp_i (z := (nI 0)) nI_0.symm ?_
      refine va_put (D := D) (ci := 4) (v := .int (nI 0)) (ty := .int) (C := RX4) (T := TX4) (N := 7) hx hb hts in_X4 tyX4 tyX4_ok nmX4 hown hK hP (hDD _) hS 0 rfl rfl 5 (by decide) (hts _ kf_X4_41) (fun _ h9 => h9) rfl (by decide +kernel) rfl rfl (Nat.le_of_ble_eq_true rfl) dX4_letGo_52 (fun H locs hP _ hS => ?_)
      have hP : va_P D vwCl (cW ad cA (τ.1, τ.2.1, τ.2.2.1, τ.2.2.2.1, ((sGp τ), 0, (sAl τ)))) H := hP
      refine lv_iload_n hx hb dX4_letGo_55 rfl (lv_at hl 3 rfl) ?_
      exact rt_i (v := a) (u := (τ.1, τ.2.1, τ.2.2.1, τ.2.2.2.1, ((sGp τ), 0, (sAl τ)))) hx hb hr hlocks hS hP (⟨rfl, hE⟩) dX4_letGo_56
    | succ j ih =>
      intro τ H locs ls hK1 hg hb1 hE hP hS hl
      have hj60 : j + 1 ≤ 60 := hK1.2.1
      obtain ⟨k, hk, ek⟩ := hK1.2.2.2.2.2 j (Nat.lt_succ_self j)
      have ek : sGp σ j = nI k := ek
      have hk40 : k < 40 := Nat.lt_of_lt_of_le hk hK1.1
      have hd := InvK.d1 (w := w) (σ := τ) (g := sGp σ) (j := j) (al := sAl σ) hK1
      rw [d1_k ek (by omega)] at hd
      refine lv_iload_n hx hb dX4_letGo_7 rfl (lv_at hl 0 rfl) ?_
      refine tp_i (z := (nI j)) (nI_pred _) ?_
      refine lv_if_lt (tgt := 50) hx hb dX4_letGo_8 (by decide) (fun c9 => absurd c9 (nI_pos (by omega))) (fun _ => ?_)
      refine lv_aload_n hx hb dX4_letGo_11 rfl (lv_at hl 1 rfl) ?_
      refine va_get (D := D) (ci := 4) (v := .ref (ad 5)) (C := RX4) (T := TX4) (N := 7) hx hb hts in_X4 hown hK hP 0 rfl rfl 4 (by decide) (hts _ kf_X4_37) (fun _ h9 => h9) rfl dX4_letGo_12 ?_
      refine lv_iload_n hx hb dX4_letGo_15 rfl (lv_at hl 0 rfl) ?_
      refine tp_i (z := (nI j)) (nI_pred _) ?_
      refine ar_g hx hb hK hP 5 rfl (by omega) (by decide) dX4_letGo_16 ?_
      refine tp_i (z := (nI k)) (by rw [hg]; exact ek) ?_
      refine lv_istore (lv' := [(4, .int (nI k)), (3, .int (nI (j + 1) - 1)), (0, .ref (ad 0)), (1, .int w), (2, .int a)]) hx hb dX4_letGo_17 hl (by decide) rfl (fun ls hl => ?_)
      refine lv_aload_n hx hb dX4_letGo_19 rfl (lv_at hl 2 rfl) ?_
      refine va_get (D := D) (ci := 4) (v := .ref (ad 1)) (C := RX4) (T := TX4) (N := 7) hx hb hts in_X4 hown hK hP 0 rfl rfl 0 (by decide) (hts _ kf_X4_10) (fun _ h9 => h9) rfl dX4_letGo_20 ?_
      refine va_get (D := D) (ci := 1) (v := .ref (ad 9)) (C := RX1) (T := TX1) (N := 5) hx hb hts in_X1 hown hK hP 1 rfl rfl 3 (by decide) (hts _ kf_X4_135) (fun _ h9 => h9) rfl dX4_letGo_23 ?_
      refine lv_iload hx hb dX4_letGo_26 (lv_at hl 0 rfl) ?_
      refine lv_dup2_11 hx hb dX4_letGo_28 rfl rfl ?_
      refine ar_g hx hb hK hP 9 rfl (by omega) (by decide) dX4_letGo_29 ?_
      refine lv_iconst (v := 1) hx hb dX4_letGo_30 (by decide) ?_
      refine lv_isub hx hb dX4_letGo_31 ?_
      refine ar_p hx hb hK hP (hDD _) hS 9 rfl (x := ((sHel τ k) - 1)) (by omega) (by decide) dX4_letGo_32 (fun H locs hP hS => ?_)
      have hP : va_P D vwCl (cW ad cA (((sTee τ), (sStr τ), (sWea τ), (upd (sHel τ) k ((sHel τ k) - 1)), (sKc τ)), τ.2.1, τ.2.2.1, τ.2.2.2.1, τ.2.2.2.2)) H := hP
      refine lv_aload_n hx hb dX4_letGo_33 rfl (lv_at hl 2 rfl) ?_
      refine va_get (D := D) (ci := 4) (v := .ref (ad 3)) (C := RX4) (T := TX4) (N := 7) hx hb hts in_X4 hown hK hP 0 rfl rfl 2 (by decide) (hts _ kf_X4_26) (fun _ h9 => h9) rfl dX4_letGo_34 ?_
      refine lv_iload_n hx hb dX4_letGo_37 rfl (lv_at hl 3 rfl) ?_
      refine lv_iload hx hb dX4_letGo_38 (lv_at hl 0 rfl) ?_
      refine lv_iadd hx hb dX4_letGo_40 ?_
      refine cl_v (rest := []) (c_X0_write l D cA ad A hDD (((sTee τ), (sStr τ), (sWea τ), (upd (sHel τ) k ((sHel τ k) - 1)), (sKc τ)), τ.2.1, τ.2.2.1, τ.2.2.2.1, τ.2.2.2.2) (w + (nI k)) (by show sBc τ < 2147483647; omega)) ⟨hx, hb, hml, hown, hts⟩ hK hP hS kv_X4_131 ⟨Nat.le_of_ble_eq_true rfl, Nat.le_of_ble_eq_true rfl⟩ ⟨Nat.zero_le _, Nat.zero_le _⟩ 3 rfl rfl rfl hl.1 rfl (Nat.le_of_ble_eq_true rfl) (fun q h => h) dX4_letGo_41 (fun u H locs hw hP hS _ => ?_)
      rw [hw] at hP
      refine lv_iinc (v := (nI j - 1)) (lv' := [(3, .int (nI j - 1)), (4, .int (nI k)), (0, .ref (ad 0)), (1, .int w), (2, .int a)]) hx hb dX4_letGo_44 hl (k := 1) rfl (by rw [nI_pred]; exact m1_sub _) (by decide) rfl (fun ls hl => ?_)
      refine lv_goto (tgt := 7) hx hb dX4_letGo_47 (by decide) ?_
      exact ih _ _ _ ls hd hg (by show sBc τ + 1 + j < 2147483647; omega) (by rw [← hE]; show _ = sgr (dr w (sGp σ) j (d1 w (sGp σ j) τ)) 0; rw [d1_k ek (by omega)]) hP hS (lv_sub hl [0, 2, 3, 4] rfl)
  refine lv_aload_n hx hb dX4_letGo_0 rfl (lv_at hl 0 rfl) ?_
  refine va_get (D := D) (ci := 4) (v := .int (nI (sGr σ))) (C := RX4) (T := TX4) (N := 7) hx hb hts in_X4 hown hK hP 0 rfl rfl 5 (by decide) (hts _ kf_X4_41) (fun _ h9 => h9) rfl dX4_letGo_1 ?_
  refine lv_iconst (v := 1) hx hb dX4_letGo_4 (by decide) ?_
  refine lv_isub hx hb dX4_letGo_5 ?_
  refine lv_istore_n (lv' := [(3, .int ((nI (sGr σ)) - 1)), (0, .ref (ad 0)), (1, .int w), (2, .int a)]) hx hb dX4_letGo_6 rfl hl (by decide) rfl (fun ls hl => ?_)
  exact loop (sGr σ) σ _ _ ls hI.1 rfl hb9 rfl hP hS (lv_sub hl [0, 1, 2, 3] rfl)
set_option maxHeartbeats 4000000 in
set_option maxRecDepth 100000 in
theorem c_X4_raiseAlarm (l : Launch) (D : va_G) (cA : ClassId) (ad : Nat → Nat) (A : Nat → Prop) (hDD : ∀ u, va_D A (cW ad cA u)) (σ : CS) (a : Int32) (hI : Inv σ) (hb9 : sBc σ + sGr σ < 2147483647) : Ct l D cA (cW ad cA) A yX4_raiseAlarm cX4_raiseAlarm 2 (some .int) 2 45 [.ref (ad 0), .int a] σ (fun r u => r = a ∧ u = ra σ) := by
  refine Ct.of (by decide) (Nat.le_of_ble_eq_true rfl) ?_
  intro p e s m below meth c ls S0 hr hlocks hK hP hS hl
  obtain ⟨hx, hb, hml, hown, hts⟩ := id S0
  have hl : lv_has ls 2 [(0, .ref (ad 0)), (1, .int a)] := hl
  refine lv_aload_n hx hb dX4_raiseAlarm_0 rfl (lv_at hl 0 rfl) ?_
  refine lv_dup hx hb dX4_raiseAlarm_1 rfl ?_
  refine va_get (D := D) (ci := 4) (v := .int (sAl σ)) (C := RX4) (T := TX4) (N := 7) hx hb hts in_X4 hown hK hP 0 rfl rfl 6 (by decide) (hts _ kf_X4_45) (fun _ h9 => h9) rfl dX4_raiseAlarm_2 ?_
  refine lv_iconst (v := 1) hx hb dX4_raiseAlarm_5 (by decide) ?_
  refine lv_iadd hx hb dX4_raiseAlarm_6 ?_
  refine va_put (D := D) (ci := 4) (v := .int ((sAl σ) + 1)) (ty := .int) (C := RX4) (T := TX4) (N := 7) hx hb hts in_X4 tyX4 tyX4_ok nmX4 hown hK hP (hDD _) hS 0 rfl rfl 6 (by decide) (hts _ kf_X4_45) (fun _ h9 => h9) rfl (by decide +kernel) rfl rfl (Nat.le_of_ble_eq_true rfl) dX4_raiseAlarm_7 (fun H locs hP _ hS => ?_)
  have hP : va_P D vwCl (cW ad cA (σ.1, σ.2.1, σ.2.2.1, σ.2.2.2.1, ((sGp σ), (sGr σ), ((sAl σ) + 1)))) H := hP
  refine lv_aload_n hx hb dX4_raiseAlarm_10 rfl (lv_at hl 0 rfl) ?_
  refine lv_sipush (v := 600) hx hb dX4_raiseAlarm_11 (by decide) ?_
  refine lv_iload_n hx hb dX4_raiseAlarm_14 rfl (lv_at hl 1 rfl) ?_
  refine cl_i (rest := []) (c_X4_letGo l D cA ad A hDD (σ.1, σ.2.1, σ.2.2.1, σ.2.2.2.1, ((sGp σ), (sGr σ), ((sAl σ) + 1))) 600 a hI hb9) ⟨hx, hb, hml, hown, hts⟩ hK hP hS kv_X4_88 ⟨Nat.le_of_ble_eq_true rfl, Nat.le_of_ble_eq_true rfl⟩ ⟨Nat.zero_le _, Nat.zero_le _⟩ 0 rfl rfl rfl hl.1 rfl (Nat.le_of_ble_eq_true rfl) (fun q h => h) dX4_raiseAlarm_15 (fun r u H locs hw hP hS _ => ?_)
  rw [hw.2] at hP
  refine tp_i (z := a) hw.1 ?_
  exact rt_i (v := a) (u := (da 600 (σ.1, σ.2.1, σ.2.2.1, σ.2.2.2.1, ((sGp σ), (sGr σ), ((sAl σ) + 1))))) hx hb hr hlocks hS hP (⟨rfl, rfl⟩) dX4_raiseAlarm_18
set_option maxHeartbeats 4000000 in
set_option maxRecDepth 100000 in
theorem c_X4_turnBoth (l : Launch) (D : va_G) (cA : ClassId) (ad : Nat → Nat) (A : Nat → Prop) (hDD : ∀ u, va_D A (cW ad cA u)) (σ : CS) (j : Nat) (hI : Inv σ) (hj : j < sVc σ) (hg : sGr σ + 2 ≤ 60) (hb9 : sBc σ + sGr σ ≤ 2000000000) : Ct l D cA (cW ad cA) A yX4_turnBoth cX4_turnBoth 3 (some .int) 3 66 [.ref (ad 0), .int (nI j)] σ (fun r u => r = (tb σ j).1 ∧ u = (tb σ j).2) := by
  refine Ct.of (by decide) (Nat.le_of_ble_eq_true rfl) ?_
  intro p e s m below meth c ls S0 hr hlocks hK hP hS hl
  obtain ⟨hx, hb, hml, hown, hts⟩ := id S0
  have hl : lv_has ls 3 [(0, .ref (ad 0)), (1, .int (nI j))] := hl
  have hkc := hI.kc
  have hvc := hI.vc
  have hgc := hI.gr
  have htc := hI.tc
  have s1 := th_st (h := 0) hI (hI.lf hj) (by omega)
  have g1 := th_gr (σ := σ) (x := sLf σ j) (h := 0)
  have hX2 : HX (sKc (th σ (sLf σ j) 0).2) (sRt σ j) := by rw [s1.2.2.2.1]; exact hI.rt hj
  have s2 := th_st (h := 1) s1.1 (x := sRt σ j) hX2 (by omega)
  have b1 := s1.2.2.2.2
  have b2 := s2.2.2.2.2
  have hj2 : j < sVc (th σ (sLf σ j) 0).2 := by rw [s1.2.1]; exact hj
  refine lv_aload_n hx hb dX4_turnBoth_0 rfl (lv_at hl 0 rfl) ?_
  refine lv_iload_n hx hb dX4_turnBoth_1 rfl (lv_at hl 1 rfl) ?_
  refine lv_iconst (v := 0) hx hb dX4_turnBoth_2 (by decide) ?_
  refine cl_i (rest := []) (c_X4_turnHand l D cA ad A hDD σ j 0 (sLf σ j) (hd_0 _ _) (hI.lf hj) hI hj (by omega) (by omega)) ⟨hx, hb, hml, hown, hts⟩ hK hP hS kv_X4_106 ⟨Nat.le_of_ble_eq_true rfl, Nat.le_of_ble_eq_true rfl⟩ ⟨Nat.zero_le _, Nat.zero_le _⟩ 0 rfl rfl rfl hl.1 rfl (Nat.le_of_ble_eq_true rfl) (fun q h => h) dX4_turnBoth_3 (fun r u H locs hw hP hS _ => ?_)
  rw [hw.2] at hP
  refine tp_i (z := (thc (th σ (sLf σ j) 0).1)) hw.1 ?_
  rcases th_012 σ (sLf σ j) 0 with q | q | q
  · skip
    refine lv_istore_n (lv' := [(2, .int (thc (th σ (sLf σ j) 0).1)), (0, .ref (ad 0)), (1, .int (nI j))]) hx hb dX4_turnBoth_6 rfl hl (by decide) rfl (fun ls hl => ?_)
    refine lv_iload_n hx hb dX4_turnBoth_7 rfl (lv_at hl 0 rfl) ?_
    refine tp_i (z := 0) (by rw [q]; rfl) ?_
    refine lv_if_ne (tgt := 18) hx hb dX4_turnBoth_8 (by decide) (fun c9 => absurd (by decide) c9) (fun _ => ?_)
    refine lv_aload_n hx hb dX4_turnBoth_11 rfl (lv_at hl 1 rfl) ?_
    refine lv_iload_n hx hb dX4_turnBoth_12 rfl (lv_at hl 2 rfl) ?_
    refine lv_iconst (v := 1) hx hb dX4_turnBoth_13 (by decide) ?_
    refine cl_i (rest := []) (c_X4_turnHand l D cA ad A hDD (th σ (sLf σ j) 0).2 j 1 (sRt σ j) th_rt hX2 s1.1 hj2 (by omega) (by omega)) ⟨hx, hb, hml, hown, hts⟩ hK hP hS kv_X4_106 ⟨Nat.le_of_ble_eq_true rfl, Nat.le_of_ble_eq_true rfl⟩ ⟨Nat.zero_le _, Nat.zero_le _⟩ 0 rfl rfl rfl hl.1 rfl (Nat.le_of_ble_eq_true rfl) (fun q h => h) dX4_turnBoth_14 (fun r u H locs hw hP hS _ => ?_)
    rw [hw.2] at hP
    refine tp_i (z := (thc (th (th σ (sLf σ j) 0).2 (sRt σ j) 1).1)) hw.1 ?_
    rcases th_012 (th σ (sLf σ j) 0).2 (sRt σ j) 1 with y | y | y
    · skip
      refine lv_istore_n (lv' := [(2, .int (thc (th (th σ (sLf σ j) 0).2 (sRt σ j) 1).1)), (0, .ref (ad 0)), (1, .int (nI j))]) hx hb dX4_turnBoth_17 rfl hl (by decide) rfl (fun ls hl => ?_)
      refine lv_iload_n hx hb dX4_turnBoth_18 rfl (lv_at hl 0 rfl) ?_
      refine tp_i (z := 0) (by rw [y]; rfl) ?_
      refine lv_bipush (v := (-7)) hx hb dX4_turnBoth_19 (by decide) ?_
      refine lv_icmp_ne (tgt := 31) hx hb dX4_turnBoth_21 (by decide) (fun _ => ?_) (fun c9 => absurd c9 (by decide))
      refine lv_iload_n hx hb dX4_turnBoth_31 rfl (lv_at hl 0 rfl) ?_
      refine tp_i (z := 0) (by rw [y]; rfl) ?_
      refine lv_iconst (v := 1) hx hb dX4_turnBoth_32 (by decide) ?_
      refine lv_icmp_ne (tgt := 46) hx hb dX4_turnBoth_33 (by decide) (fun _ => ?_) (fun c9 => absurd c9 (by decide))
      refine lv_iconst (v := 0) hx hb dX4_turnBoth_46 (by decide) ?_
      exact rt_i (v := 0) (u := (th (th σ (sLf σ j) 0).2 (sRt σ j) 1).2) hx hb hr hlocks hS hP (pr2 (by first | (unfold tb; rw [if_neg (by rw [q]; decide), if_neg (by rw [q]; decide), if_neg (by rw [y]; decide), if_neg (by rw [y]; decide)]; done) | (unfold tb; rw [if_neg (by rw [q]; decide), if_neg (by rw [q]; decide), if_neg (by rw [y]; decide), if_neg (by rw [y]; decide)]; rfl))) dX4_turnBoth_47
    · skip
      refine lv_istore_n (lv' := [(2, .int (thc (th (th σ (sLf σ j) 0).2 (sRt σ j) 1).1)), (0, .ref (ad 0)), (1, .int (nI j))]) hx hb dX4_turnBoth_17 rfl hl (by decide) rfl (fun ls hl => ?_)
      refine lv_iload_n hx hb dX4_turnBoth_18 rfl (lv_at hl 0 rfl) ?_
      refine tp_i (z := 1) (by rw [y]; rfl) ?_
      refine lv_bipush (v := (-7)) hx hb dX4_turnBoth_19 (by decide) ?_
      refine lv_icmp_ne (tgt := 31) hx hb dX4_turnBoth_21 (by decide) (fun _ => ?_) (fun c9 => absurd c9 (by decide))
      refine lv_iload_n hx hb dX4_turnBoth_31 rfl (lv_at hl 0 rfl) ?_
      refine tp_i (z := 1) (by rw [y]; rfl) ?_
      refine lv_iconst (v := 1) hx hb dX4_turnBoth_32 (by decide) ?_
      refine lv_icmp_ne (tgt := 46) hx hb dX4_turnBoth_33 (by decide) (fun c9 => absurd (by decide) c9) (fun _ => ?_)
      refine lv_aload_n hx hb dX4_turnBoth_36 rfl (lv_at hl 1 rfl) ?_
      refine lv_sipush (v := 300) hx hb dX4_turnBoth_37 (by decide) ?_
      refine lv_bipush (v := (-4)) hx hb dX4_turnBoth_40 (by decide) ?_
      refine cl_i (rest := []) (c_X4_letGo l D cA ad A hDD (th (th σ (sLf σ j) 0).2 (sRt σ j) 1).2 300 (-4) s2.1 (by omega)) ⟨hx, hb, hml, hown, hts⟩ hK hP hS kv_X4_88 ⟨Nat.le_of_ble_eq_true rfl, Nat.le_of_ble_eq_true rfl⟩ ⟨Nat.zero_le _, Nat.zero_le _⟩ 0 rfl rfl rfl hl.1 rfl (Nat.le_of_ble_eq_true rfl) (fun q h => h) dX4_turnBoth_42 (fun r u H locs hw hP hS _ => ?_)
      rw [hw.2] at hP
      refine tp_i (z := (-4)) hw.1 ?_
      exact rt_i (v := (-4)) (u := (da 300 (th (th σ (sLf σ j) 0).2 (sRt σ j) 1).2)) hx hb hr hlocks hS hP (pr2 (by first | (unfold tb; rw [if_neg (by rw [q]; decide), if_neg (by rw [q]; decide), if_pos y]; done) | (unfold tb; rw [if_neg (by rw [q]; decide), if_neg (by rw [q]; decide), if_pos y]; rfl))) dX4_turnBoth_45
    · skip
      refine lv_istore_n (lv' := [(2, .int (thc (th (th σ (sLf σ j) 0).2 (sRt σ j) 1).1)), (0, .ref (ad 0)), (1, .int (nI j))]) hx hb dX4_turnBoth_17 rfl hl (by decide) rfl (fun ls hl => ?_)
      refine lv_iload_n hx hb dX4_turnBoth_18 rfl (lv_at hl 0 rfl) ?_
      refine tp_i (z := (-7)) (by rw [y]; rfl) ?_
      refine lv_bipush (v := (-7)) hx hb dX4_turnBoth_19 (by decide) ?_
      refine lv_icmp_ne (tgt := 31) hx hb dX4_turnBoth_21 (by decide) (fun c9 => absurd (by decide) c9) (fun _ => ?_)
      refine lv_aload_n hx hb dX4_turnBoth_24 rfl (lv_at hl 1 rfl) ?_
      refine lv_bipush (v := (-7)) hx hb dX4_turnBoth_25 (by decide) ?_
      refine cl_i (rest := []) (c_X4_raiseAlarm l D cA ad A hDD (th (th σ (sLf σ j) 0).2 (sRt σ j) 1).2 (-7) s2.1 (by omega)) ⟨hx, hb, hml, hown, hts⟩ hK hP hS kv_X4_94 ⟨Nat.le_of_ble_eq_true rfl, Nat.le_of_ble_eq_true rfl⟩ ⟨Nat.zero_le _, Nat.zero_le _⟩ 0 rfl rfl rfl hl.1 rfl (Nat.le_of_ble_eq_true rfl) (fun q h => h) dX4_turnBoth_27 (fun r u H locs hw hP hS _ => ?_)
      rw [hw.2] at hP
      refine tp_i (z := (-7)) hw.1 ?_
      exact rt_i (v := (-7)) (u := (ra (th (th σ (sLf σ j) 0).2 (sRt σ j) 1).2)) hx hb hr hlocks hS hP (pr2 (by first | (unfold tb; rw [if_neg (by rw [q]; decide), if_neg (by rw [q]; decide), if_neg (by rw [y]; decide), if_pos y]; done) | (unfold tb; rw [if_neg (by rw [q]; decide), if_neg (by rw [q]; decide), if_neg (by rw [y]; decide), if_pos y]; rfl))) dX4_turnBoth_30
  · skip
    refine lv_istore_n (lv' := [(2, .int (thc (th σ (sLf σ j) 0).1)), (0, .ref (ad 0)), (1, .int (nI j))]) hx hb dX4_turnBoth_6 rfl hl (by decide) rfl (fun ls hl => ?_)
    refine lv_iload_n hx hb dX4_turnBoth_7 rfl (lv_at hl 0 rfl) ?_
    refine tp_i (z := 1) (by rw [q]; rfl) ?_
    refine lv_if_ne (tgt := 18) hx hb dX4_turnBoth_8 (by decide) (fun _ => ?_) (fun c9 => absurd c9 (by decide))
    refine lv_iload_n hx hb dX4_turnBoth_18 rfl (lv_at hl 0 rfl) ?_
    refine tp_i (z := 1) (by rw [q]; rfl) ?_
    refine lv_bipush (v := (-7)) hx hb dX4_turnBoth_19 (by decide) ?_
    refine lv_icmp_ne (tgt := 31) hx hb dX4_turnBoth_21 (by decide) (fun _ => ?_) (fun c9 => absurd c9 (by decide))
    refine lv_iload_n hx hb dX4_turnBoth_31 rfl (lv_at hl 0 rfl) ?_
    refine tp_i (z := 1) (by rw [q]; rfl) ?_
    refine lv_iconst (v := 1) hx hb dX4_turnBoth_32 (by decide) ?_
    refine lv_icmp_ne (tgt := 46) hx hb dX4_turnBoth_33 (by decide) (fun c9 => absurd (by decide) c9) (fun _ => ?_)
    refine lv_aload_n hx hb dX4_turnBoth_36 rfl (lv_at hl 1 rfl) ?_
    refine lv_sipush (v := 300) hx hb dX4_turnBoth_37 (by decide) ?_
    refine lv_bipush (v := (-4)) hx hb dX4_turnBoth_40 (by decide) ?_
    refine cl_i (rest := []) (c_X4_letGo l D cA ad A hDD (th σ (sLf σ j) 0).2 300 (-4) s1.1 (by omega)) ⟨hx, hb, hml, hown, hts⟩ hK hP hS kv_X4_88 ⟨Nat.le_of_ble_eq_true rfl, Nat.le_of_ble_eq_true rfl⟩ ⟨Nat.zero_le _, Nat.zero_le _⟩ 0 rfl rfl rfl hl.1 rfl (Nat.le_of_ble_eq_true rfl) (fun q h => h) dX4_turnBoth_42 (fun r u H locs hw hP hS _ => ?_)
    rw [hw.2] at hP
    refine tp_i (z := (-4)) hw.1 ?_
    exact rt_i (v := (-4)) (u := (da 300 (th σ (sLf σ j) 0).2)) hx hb hr hlocks hS hP (pr2 (by first | (unfold tb; rw [if_pos q]; done) | (unfold tb; rw [if_pos q]; rfl))) dX4_turnBoth_45
  · skip
    refine lv_istore_n (lv' := [(2, .int (thc (th σ (sLf σ j) 0).1)), (0, .ref (ad 0)), (1, .int (nI j))]) hx hb dX4_turnBoth_6 rfl hl (by decide) rfl (fun ls hl => ?_)
    refine lv_iload_n hx hb dX4_turnBoth_7 rfl (lv_at hl 0 rfl) ?_
    refine tp_i (z := (-7)) (by rw [q]; rfl) ?_
    refine lv_if_ne (tgt := 18) hx hb dX4_turnBoth_8 (by decide) (fun _ => ?_) (fun c9 => absurd c9 (by decide))
    refine lv_iload_n hx hb dX4_turnBoth_18 rfl (lv_at hl 0 rfl) ?_
    refine tp_i (z := (-7)) (by rw [q]; rfl) ?_
    refine lv_bipush (v := (-7)) hx hb dX4_turnBoth_19 (by decide) ?_
    refine lv_icmp_ne (tgt := 31) hx hb dX4_turnBoth_21 (by decide) (fun c9 => absurd (by decide) c9) (fun _ => ?_)
    refine lv_aload_n hx hb dX4_turnBoth_24 rfl (lv_at hl 1 rfl) ?_
    refine lv_bipush (v := (-7)) hx hb dX4_turnBoth_25 (by decide) ?_
    refine cl_i (rest := []) (c_X4_raiseAlarm l D cA ad A hDD (th σ (sLf σ j) 0).2 (-7) s1.1 (by omega)) ⟨hx, hb, hml, hown, hts⟩ hK hP hS kv_X4_94 ⟨Nat.le_of_ble_eq_true rfl, Nat.le_of_ble_eq_true rfl⟩ ⟨Nat.zero_le _, Nat.zero_le _⟩ 0 rfl rfl rfl hl.1 rfl (Nat.le_of_ble_eq_true rfl) (fun q h => h) dX4_turnBoth_27 (fun r u H locs hw hP hS _ => ?_)
    rw [hw.2] at hP
    refine tp_i (z := (-7)) hw.1 ?_
    exact rt_i (v := (-7)) (u := (ra (th σ (sLf σ j) 0).2)) hx hb hr hlocks hS hP (pr2 (by first | (unfold tb; rw [if_neg (by rw [q]; decide), if_pos q]; done) | (unfold tb; rw [if_neg (by rw [q]; decide), if_pos q]; rfl))) dX4_turnBoth_30
end
section
set_option maxHeartbeats 4000000 in
set_option maxRecDepth 100000 in
theorem c_X5_dropTop (l : Launch) (D : va_G) (cA : ClassId) (ad : Nat → Nat) (A : Nat → Prop) (hDD : ∀ u, va_D A (rW ad cA u)) (σ : CS) (w : Int32) (j k : Nat) (hgr : sGr σ = j + 1) (hj : j < 60) (hk : k < 40) (ek : sGp σ j = nI k) (hb9 : sBc σ < 2147483647) : Cv l D cA (rW ad cA) A yX5_dropTop cX5_dropTop 3 1 21 [.ref (ad 0), .int w] σ (fun u => u = sgr (wr (w + nI k) (dec σ k)) j) := by
  refine Cv.of (by decide) (Nat.le_of_ble_eq_true rfl) ?_
  intro p e s m below meth c ls S0 hr hlocks hK hP hS hl
  obtain ⟨hx, hb, hml, hown, hts⟩ := id S0
  have hl : lv_has ls 3 [(0, .ref (ad 0)), (1, .int w)] := hl
  refine lv_aload_n hx hb dX5_dropTop_0 rfl (lv_at hl 0 rfl) ?_
  refine lv_dup hx hb dX5_dropTop_1 rfl ?_
  refine va_get (D := D) (ci := 5) (v := .int (nI (sGr σ))) (C := RX5) (T := TX5) (N := 20) hx hb hts in_X5 hown hK hP 0 rfl rfl 11 (by decide) (hts _ kf_X5_76) (fun _ h9 => h9) rfl dX5_dropTop_2 ?_
  refine tp_i (z := (nI (j + 1))) (by rw [hgr]) ?_
  refine lv_iconst (v := 1) hx hb dX5_dropTop_5 (by decide) ?_
  refine lv_isub hx hb dX5_dropTop_6 ?_
  refine tp_i (z := (nI j)) (nI_pred _) ?_
  refine va_put (D := D) (ci := 5) (v := .int (nI j)) (ty := .int) (C := RX5) (T := TX5) (N := 20) hx hb hts in_X5 tyX5 tyX5_ok nmX5 hown hK hP (hDD _) hS 0 rfl rfl 11 (by decide) (hts _ kf_X5_76) (fun _ h9 => h9) rfl (by decide +kernel) rfl rfl (Nat.le_of_ble_eq_true rfl) dX5_dropTop_7 (fun H locs hP _ hS => ?_)
  have hP : va_P D vwCl (rW ad cA (σ.1, σ.2.1, σ.2.2.1, σ.2.2.2.1, ((sGp σ), j, (sAl σ)))) H := hP
  refine lv_aload_n hx hb dX5_dropTop_10 rfl (lv_at hl 0 rfl) ?_
  refine va_get (D := D) (ci := 5) (v := .ref (ad 9)) (C := RX5) (T := TX5) (N := 20) hx hb hts in_X5 hown hK hP 0 rfl rfl 10 (by decide) (hts _ kf_X5_34) (fun _ h9 => h9) rfl dX5_dropTop_11 ?_
  refine lv_aload_n hx hb dX5_dropTop_14 rfl (lv_at hl 0 rfl) ?_
  refine va_get (D := D) (ci := 5) (v := .int (nI j)) (C := RX5) (T := TX5) (N := 20) hx hb hts in_X5 hown hK hP 0 rfl rfl 11 (by decide) (hts _ kf_X5_76) (fun _ h9 => h9) rfl dX5_dropTop_15 ?_
  refine ar_g hx hb hK hP 9 rfl (by omega) (by decide) dX5_dropTop_18 ?_
  refine tp_i (z := (nI k)) (ek) ?_
  refine lv_istore_n (lv' := [(2, .int (nI k)), (0, .ref (ad 0)), (1, .int w)]) hx hb dX5_dropTop_19 rfl hl (by decide) rfl (fun ls hl => ?_)
  refine lv_aload_n hx hb dX5_dropTop_20 rfl (lv_at hl 1 rfl) ?_
  refine va_get (D := D) (ci := 5) (v := .ref (ad 4)) (C := RX5) (T := TX5) (N := 20) hx hb hts in_X5 hown hK hP 0 rfl rfl 3 (by decide) (hts _ kf_X5_19) (fun _ h9 => h9) rfl dX5_dropTop_21 ?_
  refine lv_iload_n hx hb dX5_dropTop_24 rfl (lv_at hl 0 rfl) ?_
  refine lv_dup2_11 hx hb dX5_dropTop_25 rfl rfl ?_
  refine ar_g hx hb hK hP 4 rfl (by omega) (by decide) dX5_dropTop_26 ?_
  refine lv_iconst (v := 1) hx hb dX5_dropTop_27 (by decide) ?_
  refine lv_isub hx hb dX5_dropTop_28 ?_
  refine ar_p hx hb hK hP (hDD _) hS 4 rfl (x := ((sHel σ k) - 1)) (by omega) (by decide) dX5_dropTop_29 (fun H locs hP hS => ?_)
  have hP : va_P D vwCl (rW ad cA (((sTee σ), (sStr σ), (sWea σ), (upd (sHel σ) k ((sHel σ k) - 1)), (sKc σ)), σ.2.1, σ.2.2.1, σ.2.2.2.1, ((sGp σ), j, (sAl σ)))) H := hP
  refine lv_aload_n hx hb dX5_dropTop_30 rfl (lv_at hl 1 rfl) ?_
  refine lv_iload_n hx hb dX5_dropTop_31 rfl (lv_at hl 2 rfl) ?_
  refine lv_iload_n hx hb dX5_dropTop_32 rfl (lv_at hl 0 rfl) ?_
  refine lv_iadd hx hb dX5_dropTop_33 ?_
  refine cl_v (rest := []) (c_X5_enter l D cA ad A hDD (((sTee σ), (sStr σ), (sWea σ), (upd (sHel σ) k ((sHel σ k) - 1)), (sKc σ)), σ.2.1, σ.2.2.1, σ.2.2.2.1, ((sGp σ), j, (sAl σ))) (w + (nI k)) hb9) ⟨hx, hb, hml, hown, hts⟩ hK hP hS kv_X5_79 ⟨Nat.le_of_ble_eq_true rfl, Nat.le_of_ble_eq_true rfl⟩ ⟨Nat.zero_le _, Nat.zero_le _⟩ 0 rfl rfl rfl hl.1 rfl (Nat.le_of_ble_eq_true rfl) (fun q h => h) dX5_dropTop_34 (fun u H locs hw hP hS _ => ?_)
  rw [hw] at hP
  exact rt_v (u := (wr (w + (nI k)) (((sTee σ), (sStr σ), (sWea σ), (upd (sHel σ) k ((sHel σ k) - 1)), (sKc σ)), σ.2.1, σ.2.2.1, σ.2.2.2.1, ((sGp σ), j, (sAl σ))))) hx hb hr hlocks hS hP (rfl) dX5_dropTop_37
set_option maxHeartbeats 4000000 in
set_option maxRecDepth 100000 in
theorem c_X5_dropAll (l : Launch) (D : va_G) (cA : ClassId) (ad : Nat → Nat) (A : Nat → Prop) (hDD : ∀ u, va_D A (rW ad cA u)) (σ : CS) (w : Int32) (hI : Inv σ) (hb9 : sBc σ + sGr σ < 2147483647) : Cv l D cA (rW ad cA) A yX5_dropAll cX5_dropAll 2 2 43 [.ref (ad 0), .int w] σ (fun u => u = da w σ) := by
  refine Cv.of (by decide) (Nat.le_of_ble_eq_true rfl) ?_
  intro p e s m below meth c ls S0 hr hlocks hK hP hS hl
  obtain ⟨hx, hb, hml, hown, hts⟩ := id S0
  have hl : lv_has ls 2 [(0, .ref (ad 0)), (1, .int w)] := hl
  have loop : ∀ (j : Nat) (τ : CS) (H : Heap) (locs : List Loc) (ls : Array Slot), sGr τ = j → InvK τ.1 (sGp σ, j, sAl σ) → sGp τ = sGp σ → sBc τ + j < 2147483647 → sgr (dr w (sGp σ) j τ) 0 = da w σ → va_P D vwCl (rW ad cA τ) H → va_S A s.heap H locs → lv_has ls 2 [(0, .ref (ad 0)), (1, .int w)] → W p l e { frames := 2, cells := 0, slots := 0, locals := 43 } s m ([.ref (ad 0), .int w] : List Value).toArray below meth c H locs 0 0 (MQ below (va_Qv (fun u => u = da w σ) (fun u t => va_P D vwCl (rW ad cA u) t.heap) A) ([.ref (ad 0), .int w] : List Value).toArray s 0 0 A) (F0 m 0 ls []) := by
    intro j
    induction j with
    | zero =>
      intro τ H locs ls hgr hK1 hg hb1 hE hP hS hl
      refine lv_aload_n hx hb dX5_dropAll_0 rfl (lv_at hl 0 rfl) ?_
      refine va_get (D := D) (ci := 5) (v := .int (nI (sGr τ))) (C := RX5) (T := TX5) (N := 20) hx hb hts in_X5 hown hK hP 0 rfl rfl 11 (by decide) (hts _ kf_X5_76) (fun _ h9 => h9) rfl dX5_dropAll_1 ?_
      refine tp_i (z := 0) (by rw [hgr]; rfl) ?_
      refine lv_if_le (tgt := 15) hx hb dX5_dropAll_4 (by decide) (fun _ => ?_) (fun c9 => absurd (by decide) c9)
      exact rt_v (u := τ) hx hb hr hlocks hS hP ((sgr_self hgr).symm.trans hE) dX5_dropAll_15
    | succ j ih =>
      intro τ H locs ls hgr hK1 hg hb1 hE hP hS hl
      have hj60 : j + 1 ≤ 60 := hK1.2.1
      obtain ⟨k, hk, ek⟩ := hK1.2.2.2.2.2 j (Nat.lt_succ_self j)
      have ek : sGp σ j = nI k := ek
      have hk40 : k < 40 := Nat.lt_of_lt_of_le hk hK1.1
      have hd := InvK.d1 (w := w) (σ := τ) (g := sGp σ) (j := j) (al := sAl σ) hK1
      rw [d1_k ek (by omega)] at hd
      refine lv_aload_n hx hb dX5_dropAll_0 rfl (lv_at hl 0 rfl) ?_
      refine va_get (D := D) (ci := 5) (v := .int (nI (sGr τ))) (C := RX5) (T := TX5) (N := 20) hx hb hts in_X5 hown hK hP 0 rfl rfl 11 (by decide) (hts _ kf_X5_76) (fun _ h9 => h9) rfl dX5_dropAll_1 ?_
      refine tp_i (z := (nI (j + 1))) (by rw [hgr]) ?_
      refine lv_if_le (tgt := 15) hx hb dX5_dropAll_4 (by decide) (fun c9 => absurd c9 (nI_nle (by omega) (by omega))) (fun _ => ?_)
      refine lv_aload_n hx hb dX5_dropAll_7 rfl (lv_at hl 0 rfl) ?_
      refine lv_iload_n hx hb dX5_dropAll_8 rfl (lv_at hl 1 rfl) ?_
      refine cl_v (rest := []) (c_X5_dropTop l D cA ad A hDD τ w j k hgr (by omega) hk40 (by rw [hg]; exact ek) (by omega)) ⟨hx, hb, hml, hown, hts⟩ hK hP hS kv_X5_83 ⟨Nat.le_of_ble_eq_true rfl, Nat.le_of_ble_eq_true rfl⟩ ⟨Nat.zero_le _, Nat.zero_le _⟩ 0 rfl rfl rfl hl.1 rfl (Nat.le_of_ble_eq_true rfl) (fun q h => h) dX5_dropAll_9 (fun u H locs hw hP hS _ => ?_)
      rw [hw] at hP
      refine lv_goto (tgt := 0) hx hb dX5_dropAll_12 (by decide) ?_
      exact ih (sgr (wr (w + nI k) (dec τ k)) j) _ _ ls rfl hd hg (by show sBc τ + 1 + j < 2147483647; omega) (by rw [← hE, dr_sgr]; show sgr (dr w (sGp σ) j _) 0 = sgr (dr w (sGp σ) j (d1 w (sGp σ j) τ)) 0; rw [d1_k ek (by omega)]) hP hS (lv_sub hl [0, 1] rfl)
  exact loop (sGr σ) σ _ _ ls rfl hI.1 rfl hb9 rfl hP hS (lv_sub hl [0, 1] rfl)
set_option maxHeartbeats 4000000 in
set_option maxRecDepth 100000 in
theorem c_X5_alarm (l : Launch) (D : va_G) (cA : ClassId) (ad : Nat → Nat) (A : Nat → Prop) (hDD : ∀ u, va_D A (rW ad cA u)) (σ : CS) (hI : Inv σ) (hb9 : sBc σ + sGr σ < 2147483647) : Cv l D cA (rW ad cA) A yX5_alarm cX5_alarm 1 3 64 [.ref (ad 0)] σ (fun u => u = ra σ) := by
  refine Cv.of (by decide) (Nat.le_of_ble_eq_true rfl) ?_
  intro p e s m below meth c ls S0 hr hlocks hK hP hS hl
  obtain ⟨hx, hb, hml, hown, hts⟩ := id S0
  have hl : lv_has ls 1 [(0, .ref (ad 0))] := hl
  refine lv_aload_n hx hb dX5_alarm_0 rfl (lv_at hl 0 rfl) ?_
  refine lv_sipush (v := 600) hx hb dX5_alarm_1 (by decide) ?_
  refine cl_v (rest := []) (c_X5_dropAll l D cA ad A hDD σ 600 hI hb9) ⟨hx, hb, hml, hown, hts⟩ hK hP hS kv_X5_86 ⟨Nat.le_of_ble_eq_true rfl, Nat.le_of_ble_eq_true rfl⟩ ⟨Nat.zero_le _, Nat.zero_le _⟩ 0 rfl rfl rfl hl.1 rfl (Nat.le_of_ble_eq_true rfl) (fun q h => h) dX5_alarm_4 (fun u H locs hw hP hS _ => ?_)
  rw [hw] at hP
  refine lv_aload_n hx hb dX5_alarm_7 rfl (lv_at hl 0 rfl) ?_
  refine lv_dup hx hb dX5_alarm_8 rfl ?_
  refine va_get (D := D) (ci := 5) (v := .int (sAl (da 600 σ))) (C := RX5) (T := TX5) (N := 20) hx hb hts in_X5 hown hK hP 0 rfl rfl 14 (by decide) (hts _ kf_X5_89) (fun _ h9 => h9) rfl dX5_alarm_9 ?_
  refine lv_iconst (v := 1) hx hb dX5_alarm_12 (by decide) ?_
  refine lv_iadd hx hb dX5_alarm_13 ?_
  refine va_put (D := D) (ci := 5) (v := .int ((sAl (da 600 σ)) + 1)) (ty := .int) (C := RX5) (T := TX5) (N := 20) hx hb hts in_X5 tyX5 tyX5_ok nmX5 hown hK hP (hDD _) hS 0 rfl rfl 14 (by decide) (hts _ kf_X5_89) (fun _ h9 => h9) rfl (by decide +kernel) rfl rfl (Nat.le_of_ble_eq_true rfl) dX5_alarm_14 (fun H locs hP _ hS => ?_)
  have hP : va_P D vwCl (rW ad cA ((da 600 σ).1, (da 600 σ).2.1, (da 600 σ).2.2.1, (da 600 σ).2.2.2.1, ((sGp (da 600 σ)), (sGr (da 600 σ)), ((sAl (da 600 σ)) + 1)))) H := hP
  exact rt_v (u := ((da 600 σ).1, (da 600 σ).2.1, (da 600 σ).2.2.1, (da 600 σ).2.2.2.1, ((sGp (da 600 σ)), (sGr (da 600 σ)), ((sAl (da 600 σ)) + 1)))) hx hb hr hlocks hS hP (ra_alt σ) dX5_alarm_17
set_option maxHeartbeats 4000000 in
set_option maxRecDepth 100000 in
theorem c_X5_ended (l : Launch) (D : va_G) (cA : ClassId) (ad : Nat → Nat) (A : Nat → Prop) (hDD : ∀ u, va_D A (rW ad cA u)) (σ : CS) (a : Int32) (hI : Inv σ) (hb9 : sBc σ + sGr σ < 2147483647) : Ct l D cA (rW ad cA) A yX5_ended cX5_ended 2 (some .int) 3 64 [.ref (ad 0), .int a] σ (fun r u => r = a ∧ u = da 200 σ) := by
  refine Ct.of (by decide) (Nat.le_of_ble_eq_true rfl) ?_
  intro p e s m below meth c ls S0 hr hlocks hK hP hS hl
  obtain ⟨hx, hb, hml, hown, hts⟩ := id S0
  have hl : lv_has ls 2 [(0, .ref (ad 0)), (1, .int a)] := hl
  refine lv_aload_n hx hb dX5_ended_0 rfl (lv_at hl 0 rfl) ?_
  refine lv_sipush (v := 200) hx hb dX5_ended_1 (by decide) ?_
  refine cl_v (rest := []) (c_X5_dropAll l D cA ad A hDD σ 200 hI hb9) ⟨hx, hb, hml, hown, hts⟩ hK hP hS kv_X5_86 ⟨Nat.le_of_ble_eq_true rfl, Nat.le_of_ble_eq_true rfl⟩ ⟨Nat.zero_le _, Nat.zero_le _⟩ 0 rfl rfl rfl hl.1 rfl (Nat.le_of_ble_eq_true rfl) (fun q h => h) dX5_ended_4 (fun u H locs hw hP hS _ => ?_)
  rw [hw] at hP
  refine lv_iload_n hx hb dX5_ended_7 rfl (lv_at hl 1 rfl) ?_
  exact rt_i (v := a) (u := (da 200 σ)) hx hb hr hlocks hS hP (⟨rfl, rfl⟩) dX5_ended_8
set_option maxHeartbeats 4000000 in
set_option maxRecDepth 100000 in
theorem c_X5_answered (l : Launch) (D : va_G) (cA : ClassId) (ad : Nat → Nat) (A : Nat → Prop) (hDD : ∀ u, va_D A (rW ad cA u)) (σ : CS) (a : Int32) (hI : Inv σ) (hb9 : sBc σ + sGr σ < 2147483647) : Ct l D cA (rW ad cA) A yX5_answered cX5_answered 2 (some .int) 3 64 [.ref (ad 0), .int a] σ (fun r u => r = a ∧ u = da 300 σ) := by
  refine Ct.of (by decide) (Nat.le_of_ble_eq_true rfl) ?_
  intro p e s m below meth c ls S0 hr hlocks hK hP hS hl
  obtain ⟨hx, hb, hml, hown, hts⟩ := id S0
  have hl : lv_has ls 2 [(0, .ref (ad 0)), (1, .int a)] := hl
  refine lv_aload_n hx hb dX5_answered_0 rfl (lv_at hl 0 rfl) ?_
  refine lv_sipush (v := 300) hx hb dX5_answered_1 (by decide) ?_
  refine cl_v (rest := []) (c_X5_dropAll l D cA ad A hDD σ 300 hI hb9) ⟨hx, hb, hml, hown, hts⟩ hK hP hS kv_X5_86 ⟨Nat.le_of_ble_eq_true rfl, Nat.le_of_ble_eq_true rfl⟩ ⟨Nat.zero_le _, Nat.zero_le _⟩ 0 rfl rfl rfl hl.1 rfl (Nat.le_of_ble_eq_true rfl) (fun q h => h) dX5_answered_4 (fun u H locs hw hP hS _ => ?_)
  rw [hw] at hP
  refine lv_iload_n hx hb dX5_answered_7 rfl (lv_at hl 1 rfl) ?_
  exact rt_i (v := a) (u := (da 300 σ)) hx hb hr hlocks hS hP (⟨rfl, rfl⟩) dX5_answered_8
set_option maxHeartbeats 4000000 in
set_option maxRecDepth 100000 in
theorem c_X5_alarmed (l : Launch) (D : va_G) (cA : ClassId) (ad : Nat → Nat) (A : Nat → Prop) (hDD : ∀ u, va_D A (rW ad cA u)) (σ : CS) (a : Int32) (hI : Inv σ) (hb9 : sBc σ + sGr σ < 2147483647) : Ct l D cA (rW ad cA) A yX5_alarmed cX5_alarmed 2 (some .int) 4 84 [.ref (ad 0), .int a] σ (fun r u => r = a ∧ u = ra σ) := by
  refine Ct.of (by decide) (Nat.le_of_ble_eq_true rfl) ?_
  intro p e s m below meth c ls S0 hr hlocks hK hP hS hl
  obtain ⟨hx, hb, hml, hown, hts⟩ := id S0
  have hl : lv_has ls 2 [(0, .ref (ad 0)), (1, .int a)] := hl
  refine lv_aload_n hx hb dX5_alarmed_0 rfl (lv_at hl 0 rfl) ?_
  refine cl_v (rest := []) (c_X5_alarm l D cA ad A hDD σ  hI hb9) ⟨hx, hb, hml, hown, hts⟩ hK hP hS kv_X5_92 ⟨Nat.le_of_ble_eq_true rfl, Nat.le_of_ble_eq_true rfl⟩ ⟨Nat.zero_le _, Nat.zero_le _⟩ 0 rfl rfl rfl hl.1 rfl (Nat.le_of_ble_eq_true rfl) (fun q h => h) dX5_alarmed_1 (fun u H locs hw hP hS _ => ?_)
  rw [hw] at hP
  refine lv_iload_n hx hb dX5_alarmed_4 rfl (lv_at hl 1 rfl) ?_
  exact rt_i (v := a) (u := (ra σ)) hx hb hr hlocks hS hP (⟨rfl, rfl⟩) dX5_alarmed_5
set_option maxHeartbeats 4000000 in
set_option maxRecDepth 100000 in
theorem c_X5_turnKey (l : Launch) (D : va_G) (cA : ClassId) (ad : Nat → Nat) (A : Nat → Prop) (hDD : ∀ u, va_D A (rW ad cA u)) (σ : CS) (k : Nat) (hI : Inv σ) (hk : k < sKc σ) (hg : sGr σ < 60) (hb9 : sBc σ + sGr σ ≤ 2000000010) : Ct l D cA (rW ad cA) A yX5_turnKey cX5_turnKey 2 (some .int) 4 84 [.ref (ad 0), .int (nI k)] σ (fun r u => r = (tkm σ k).1 ∧ u = (tkm σ k).2) := by
  refine Ct.of (by decide) (Nat.le_of_ble_eq_true rfl) ?_
  intro p e s m below meth c ls S0 hr hlocks hK hP hS hl
  obtain ⟨hx, hb, hml, hown, hts⟩ := id S0
  have hl : lv_has ls 2 [(0, .ref (ad 0)), (1, .int (nI k))] := hl
  have hkc := hI.kc
  have hvc := hI.vc
  have hgc := hI.gr
  have htc := hI.tc
  refine lv_aload_n hx hb dX5_turnKey_0 rfl (lv_at hl 0 rfl) ?_
  refine va_get (D := D) (ci := 5) (v := .ref (ad 4)) (C := RX5) (T := TX5) (N := 20) hx hb hts in_X5 hown hK hP 0 rfl rfl 3 (by decide) (hts _ kf_X5_19) (fun _ h9 => h9) rfl dX5_turnKey_1 ?_
  refine lv_iload_n hx hb dX5_turnKey_4 rfl (lv_at hl 1 rfl) ?_
  refine ar_g hx hb hK hP 4 rfl (by omega) (by decide) dX5_turnKey_5 ?_
  refine lv_aload_n hx hb dX5_turnKey_6 rfl (lv_at hl 0 rfl) ?_
  refine va_get (D := D) (ci := 5) (v := .ref (ad 1)) (C := RX5) (T := TX5) (N := 20) hx hb hts in_X5 hown hK hP 0 rfl rfl 0 (by decide) (hts _ kf_X5_7) (fun _ h9 => h9) rfl dX5_turnKey_7 ?_
  refine lv_iload_n hx hb dX5_turnKey_10 rfl (lv_at hl 1 rfl) ?_
  refine ar_g hx hb hK hP 1 rfl (by omega) (by decide) dX5_turnKey_11 ?_
  refine lv_icmp_ne (tgt := 31) hx hb dX5_turnKey_12 (by decide) (fun c12 => ?_) (fun c12 => ?_)
  · refine lv_aload_n hx hb dX5_turnKey_31 rfl (lv_at hl 0 rfl) ?_
    refine va_get (D := D) (ci := 5) (v := .ref (ad 3)) (C := RX5) (T := TX5) (N := 20) hx hb hts in_X5 hown hK hP 0 rfl rfl 2 (by decide) (hts _ kf_X5_16) (fun _ h9 => h9) rfl dX5_turnKey_32 ?_
    refine lv_iload_n hx hb dX5_turnKey_35 rfl (lv_at hl 1 rfl) ?_
    refine lv_dup2_11 hx hb dX5_turnKey_36 rfl rfl ?_
    refine ar_g hx hb hK hP 3 rfl (by omega) (by decide) dX5_turnKey_37 ?_
    refine lv_aload_n hx hb dX5_turnKey_38 rfl (lv_at hl 0 rfl) ?_
    refine va_get (D := D) (ci := 5) (v := .ref (ad 2)) (C := RX5) (T := TX5) (N := 20) hx hb hts in_X5 hown hK hP 0 rfl rfl 1 (by decide) (hts _ kf_X5_13) (fun _ h9 => h9) rfl dX5_turnKey_39 ?_
    refine lv_iload_n hx hb dX5_turnKey_42 rfl (lv_at hl 1 rfl) ?_
    refine ar_g hx hb hK hP 2 rfl (by omega) (by decide) dX5_turnKey_43 ?_
    refine lv_iadd hx hb dX5_turnKey_44 ?_
    refine ar_p hx hb hK hP (hDD _) hS 3 rfl (x := ((sWea σ k) + (sStr σ k))) (by omega) (by decide) dX5_turnKey_45 (fun H locs hP hS => ?_)
    have hP : va_P D vwCl (rW ad cA (((sTee σ), (sStr σ), (upd (sWea σ) k ((sWea σ k) + (sStr σ k))), (sHel σ), (sKc σ)), σ.2.1, σ.2.2.1, σ.2.2.2.1, σ.2.2.2.2)) H := hP
    refine lv_aload_n hx hb dX5_turnKey_46 rfl (lv_at hl 0 rfl) ?_
    refine va_get (D := D) (ci := 5) (v := .ref (ad 4)) (C := RX5) (T := TX5) (N := 20) hx hb hts in_X5 hown hK hP 0 rfl rfl 3 (by decide) (hts _ kf_X5_19) (fun _ h9 => h9) rfl dX5_turnKey_47 ?_
    refine lv_iload_n hx hb dX5_turnKey_50 rfl (lv_at hl 1 rfl) ?_
    refine lv_dup2_11 hx hb dX5_turnKey_51 rfl rfl ?_
    refine ar_g hx hb hK hP 4 rfl (by omega) (by decide) dX5_turnKey_52 ?_
    refine lv_iconst (v := 1) hx hb dX5_turnKey_53 (by decide) ?_
    refine lv_iadd hx hb dX5_turnKey_54 ?_
    refine ar_p hx hb hK hP (hDD _) hS 4 rfl (x := ((sHel σ k) + 1)) (by omega) (by decide) dX5_turnKey_55 (fun H locs hP hS => ?_)
    have hP : va_P D vwCl (rW ad cA (((sTee σ), (sStr σ), (upd (sWea σ) k ((sWea σ k) + (sStr σ k))), (upd (sHel σ) k ((sHel σ k) + 1)), (sKc σ)), σ.2.1, σ.2.2.1, σ.2.2.2.1, σ.2.2.2.2)) H := hP
    refine lv_aload_n hx hb dX5_turnKey_56 rfl (lv_at hl 0 rfl) ?_
    refine va_get (D := D) (ci := 5) (v := .ref (ad 9)) (C := RX5) (T := TX5) (N := 20) hx hb hts in_X5 hown hK hP 0 rfl rfl 10 (by decide) (hts _ kf_X5_34) (fun _ h9 => h9) rfl dX5_turnKey_57 ?_
    refine lv_aload_n hx hb dX5_turnKey_60 rfl (lv_at hl 0 rfl) ?_
    refine va_get (D := D) (ci := 5) (v := .int (nI (sGr σ))) (C := RX5) (T := TX5) (N := 20) hx hb hts in_X5 hown hK hP 0 rfl rfl 11 (by decide) (hts _ kf_X5_76) (fun _ h9 => h9) rfl dX5_turnKey_61 ?_
    refine lv_iload_n hx hb dX5_turnKey_64 rfl (lv_at hl 1 rfl) ?_
    refine ar_p hx hb hK hP (hDD _) hS 9 rfl (x := (nI k)) (by omega) (by decide) dX5_turnKey_65 (fun H locs hP hS => ?_)
    have hP : va_P D vwCl (rW ad cA (((sTee σ), (sStr σ), (upd (sWea σ) k ((sWea σ k) + (sStr σ k))), (upd (sHel σ) k ((sHel σ k) + 1)), (sKc σ)), σ.2.1, σ.2.2.1, σ.2.2.2.1, ((upd (sGp σ) (sGr σ) (nI k)), (sGr σ), (sAl σ)))) H := hP
    refine lv_aload_n hx hb dX5_turnKey_66 rfl (lv_at hl 0 rfl) ?_
    refine lv_dup hx hb dX5_turnKey_67 rfl ?_
    refine va_get (D := D) (ci := 5) (v := .int (nI (sGr σ))) (C := RX5) (T := TX5) (N := 20) hx hb hts in_X5 hown hK hP 0 rfl rfl 11 (by decide) (hts _ kf_X5_76) (fun _ h9 => h9) rfl dX5_turnKey_68 ?_
    refine lv_iconst (v := 1) hx hb dX5_turnKey_71 (by decide) ?_
    refine lv_iadd hx hb dX5_turnKey_72 ?_
    refine tp_i (z := (nI ((sGr σ) + 1))) (nI_1 _) ?_
    refine va_put (D := D) (ci := 5) (v := .int (nI ((sGr σ) + 1))) (ty := .int) (C := RX5) (T := TX5) (N := 20) hx hb hts in_X5 tyX5 tyX5_ok nmX5 hown hK hP (hDD _) hS 0 rfl rfl 11 (by decide) (hts _ kf_X5_76) (fun _ h9 => h9) rfl (by decide +kernel) rfl rfl (Nat.le_of_ble_eq_true rfl) dX5_turnKey_73 (fun H locs hP _ hS => ?_)
    have hP : va_P D vwCl (rW ad cA (((sTee σ), (sStr σ), (upd (sWea σ) k ((sWea σ k) + (sStr σ k))), (upd (sHel σ) k ((sHel σ k) + 1)), (sKc σ)), σ.2.1, σ.2.2.1, σ.2.2.2.1, ((upd (sGp σ) (sGr σ) (nI k)), ((sGr σ) + 1), (sAl σ)))) H := hP
    refine lv_aload_n hx hb dX5_turnKey_76 rfl (lv_at hl 0 rfl) ?_
    refine lv_bipush (v := 100) hx hb dX5_turnKey_77 (by decide) ?_
    refine lv_iload_n hx hb dX5_turnKey_79 rfl (lv_at hl 1 rfl) ?_
    refine lv_iadd hx hb dX5_turnKey_80 ?_
    refine cl_v (rest := []) (c_X5_enter l D cA ad A hDD (((sTee σ), (sStr σ), (upd (sWea σ) k ((sWea σ k) + (sStr σ k))), (upd (sHel σ) k ((sHel σ k) + 1)), (sKc σ)), σ.2.1, σ.2.2.1, σ.2.2.2.1, ((upd (sGp σ) (sGr σ) (nI k)), ((sGr σ) + 1), (sAl σ))) (100 + (nI k)) (by show sBc σ < 2147483647; omega)) ⟨hx, hb, hml, hown, hts⟩ hK hP hS kv_X5_79 ⟨Nat.le_of_ble_eq_true rfl, Nat.le_of_ble_eq_true rfl⟩ ⟨Nat.zero_le _, Nat.zero_le _⟩ 0 rfl rfl rfl hl.1 rfl (Nat.le_of_ble_eq_true rfl) (fun q h => h) dX5_turnKey_81 (fun u H locs hw hP hS _ => ?_)
    rw [hw] at hP
    refine lv_iconst (v := 0) hx hb dX5_turnKey_84 (by decide) ?_
    exact rt_i (v := 0) (u := (wr (100 + (nI k)) (((sTee σ), (sStr σ), (upd (sWea σ) k ((sWea σ k) + (sStr σ k))), (upd (sHel σ) k ((sHel σ k) + 1)), (sKc σ)), σ.2.1, σ.2.2.1, σ.2.2.2.1, ((upd (sGp σ) (sGr σ) (nI k)), ((sGr σ) + 1), (sAl σ))))) hx hb hr hlocks hS hP (pr2 (by first | (unfold tkm; rw [if_neg c12]; done) | (unfold tkm; rw [if_neg c12]; rfl))) dX5_turnKey_85
  · refine lv_aload_n hx hb dX5_turnKey_15 rfl (lv_at hl 0 rfl) ?_
    refine lv_sipush (v := 700) hx hb dX5_turnKey_16 (by decide) ?_
    refine lv_iload_n hx hb dX5_turnKey_19 rfl (lv_at hl 1 rfl) ?_
    refine lv_iadd hx hb dX5_turnKey_20 ?_
    refine cl_v (rest := []) (c_X5_enter l D cA ad A hDD σ (700 + (nI k)) (by omega)) ⟨hx, hb, hml, hown, hts⟩ hK hP hS kv_X5_79 ⟨Nat.le_of_ble_eq_true rfl, Nat.le_of_ble_eq_true rfl⟩ ⟨Nat.zero_le _, Nat.zero_le _⟩ 0 rfl rfl rfl hl.1 rfl (Nat.le_of_ble_eq_true rfl) (fun q h => h) dX5_turnKey_21 (fun u H locs hw hP hS _ => ?_)
    rw [hw] at hP
    refine lv_aload_n hx hb dX5_turnKey_24 rfl (lv_at hl 0 rfl) ?_
    refine cl_v (rest := []) (c_X5_alarm l D cA ad A hDD (wr (700 + (nI k)) σ)  hI (by show sBc σ + 1 + sGr σ < 2147483647; omega)) ⟨hx, hb, hml, hown, hts⟩ hK hP hS kv_X5_92 ⟨Nat.le_of_ble_eq_true rfl, Nat.le_of_ble_eq_true rfl⟩ ⟨Nat.zero_le _, Nat.zero_le _⟩ 0 rfl rfl rfl hl.1 rfl (Nat.le_of_ble_eq_true rfl) (fun q h => h) dX5_turnKey_25 (fun u H locs hw hP hS _ => ?_)
    rw [hw] at hP
    refine lv_bipush (v := (-7)) hx hb dX5_turnKey_28 (by decide) ?_
    exact rt_i (v := (-7)) (u := (ra (wr (700 + (nI k)) σ))) hx hb hr hlocks hS hP (pr2 (by first | (unfold tkm; rw [if_pos c12]; done) | (unfold tkm; rw [if_pos c12]; rfl))) dX5_turnKey_30
set_option maxHeartbeats 4000000 in
set_option maxRecDepth 100000 in
theorem c_X5_turnHand0 (l : Launch) (D : va_G) (cA : ClassId) (ad : Nat → Nat) (A : Nat → Prop) (hDD : ∀ u, va_D A (rW ad cA u)) (σ : CS) (j : Nat) (x : Int32) (hxe : sLf σ j = x) (hX : HX (sKc σ) x) (hI : Inv σ) (hj : j < sVc σ) (hg : sGr σ < 60) (hb9 : sBc σ + sGr σ ≤ 2000000010) : Ct l D cA (rW ad cA) A yX5_turnHand cX5_turnHand 4 (some .int) 5 105 [.ref (ad 0), .int (nI j), .int 0] σ (fun r u => r = thr (th σ x 0).1 ∧ u = thu (th σ x 0)) := by
  refine Ct.of (by decide) (Nat.le_of_ble_eq_true rfl) ?_
  intro p e s m below meth c ls S0 hr hlocks hK hP hS hl
  obtain ⟨hx, hb, hml, hown, hts⟩ := id S0
  have hl : lv_has ls 4 [(0, .ref (ad 0)), (1, .int (nI j)), (2, .int 0)] := hl
  have hkc := hI.kc
  have hvc := hI.vc
  have hgc := hI.gr
  have htc := hI.tc
  refine lv_aload_n hx hb dX5_turnHand_0 rfl (lv_at hl 0 rfl) ?_
  refine va_get (D := D) (ci := 5) (v := .ref (ad 8)) (C := RX5) (T := TX5) (N := 20) hx hb hts in_X5 hown hK hP 0 rfl rfl 8 (by decide) (hts _ kf_X5_31) (fun _ h9 => h9) rfl dX5_turnHand_1 ?_
  refine lv_iconst (v := 2) hx hb dX5_turnHand_4 (by decide) ?_
  refine lv_iload_n hx hb dX5_turnHand_5 rfl (lv_at hl 1 rfl) ?_
  refine lv_imul hx hb dX5_turnHand_6 ?_
  refine tp_i (z := (nI (2 * j))) (pk_mul 2 _) ?_
  refine lv_iload_n hx hb dX5_turnHand_7 rfl (lv_at hl 2 rfl) ?_
  refine lv_iadd hx hb dX5_turnHand_8 ?_
  refine tp_i (z := (nI (2 * j))) (Int32.add_zero _) ?_
  refine ar_g hx hb hK hP 8 rfl (by omega) (by decide) dX5_turnHand_9 ?_
  refine tp_i (z := (sLf σ j)) (mix_0 _ _ _) ?_
  refine tp_i (z := x) (hxe) ?_
  refine lv_istore_n (lv' := [(3, .int x), (0, .ref (ad 0)), (1, .int (nI j)), (2, .int 0)]) hx hb dX5_turnHand_10 rfl hl (by decide) rfl (fun ls hl => ?_)
  rcases hX with rfl | ⟨k, hk, rfl⟩
  · skip
    refine lv_iload_n hx hb dX5_turnHand_11 rfl (lv_at hl 0 rfl) ?_
    refine lv_iconst (v := (-1)) hx hb dX5_turnHand_12 (by decide) ?_
    refine lv_icmp_ne (tgt := 27) hx hb dX5_turnHand_13 (by decide) (fun c9 => absurd (rfl) c9) (fun _ => ?_)
    refine lv_aload_n hx hb dX5_turnHand_16 rfl (lv_at hl 1 rfl) ?_
    refine lv_bipush (v := 10) hx hb dX5_turnHand_17 (by decide) ?_
    refine lv_iload_n hx hb dX5_turnHand_19 rfl (lv_at hl 3 rfl) ?_
    refine lv_iadd hx hb dX5_turnHand_20 ?_
    refine cl_v (rest := []) (c_X5_enter l D cA ad A hDD σ (10 + 0) (by omega)) ⟨hx, hb, hml, hown, hts⟩ hK hP hS kv_X5_79 ⟨Nat.le_of_ble_eq_true rfl, Nat.le_of_ble_eq_true rfl⟩ ⟨Nat.zero_le _, Nat.zero_le _⟩ 0 rfl rfl rfl hl.1 rfl (Nat.le_of_ble_eq_true rfl) (fun q h => h) dX5_turnHand_21 (fun u H locs hw hP hS _ => ?_)
    rw [hw] at hP
    refine lv_bipush (v := (-4)) hx hb dX5_turnHand_24 (by decide) ?_
    exact rt_i (v := (-4)) (u := (wr (10 + 0) σ)) hx hb hr hlocks hS hP ((by rw [th_b]; exact ⟨rfl, rfl⟩)) dX5_turnHand_26
  · skip
    refine lv_iload_n hx hb dX5_turnHand_11 rfl (lv_at hl 0 rfl) ?_
    refine lv_iconst (v := (-1)) hx hb dX5_turnHand_12 (by decide) ?_
    refine lv_icmp_ne (tgt := 27) hx hb dX5_turnHand_13 (by decide) (fun _ => ?_) (fun c9 => absurd c9 (nI_nm1 (by omega)))
    refine lv_aload_n hx hb dX5_turnHand_27 rfl (lv_at hl 1 rfl) ?_
    refine lv_iload_n hx hb dX5_turnHand_28 rfl (lv_at hl 0 rfl) ?_
    refine cl_i (rest := []) (c_X5_turnKey l D cA ad A hDD σ k hI hk hg hb9) ⟨hx, hb, hml, hown, hts⟩ hK hP hS kv_X5_95 ⟨Nat.le_of_ble_eq_true rfl, Nat.le_of_ble_eq_true rfl⟩ ⟨Nat.zero_le _, Nat.zero_le _⟩ 0 rfl rfl rfl hl.1 rfl (Nat.le_of_ble_eq_true rfl) (fun q h => h) dX5_turnHand_29 (fun r u H locs hw hP hS _ => ?_)
    rw [hw.2] at hP
    refine tp_i (z := (tkm σ k).1) hw.1 ?_
    exact rt_i (v := (tkm σ k).1) (u := (tkm σ k).2) hx hb hr hlocks hS hP (tkm_th 0 (by omega)) dX5_turnHand_32
set_option maxHeartbeats 4000000 in
set_option maxRecDepth 100000 in
theorem c_X5_turnHand1 (l : Launch) (D : va_G) (cA : ClassId) (ad : Nat → Nat) (A : Nat → Prop) (hDD : ∀ u, va_D A (rW ad cA u)) (σ : CS) (j : Nat) (x : Int32) (hxe : sRt σ j = x) (hX : HX (sKc σ) x) (hI : Inv σ) (hj : j < sVc σ) (hg : sGr σ < 60) (hb9 : sBc σ + sGr σ ≤ 2000000010) : Ct l D cA (rW ad cA) A yX5_turnHand cX5_turnHand 4 (some .int) 5 105 [.ref (ad 0), .int (nI j), .int 1] σ (fun r u => r = thr (th σ x 1).1 ∧ u = thu (th σ x 1)) := by
  refine Ct.of (by decide) (Nat.le_of_ble_eq_true rfl) ?_
  intro p e s m below meth c ls S0 hr hlocks hK hP hS hl
  obtain ⟨hx, hb, hml, hown, hts⟩ := id S0
  have hl : lv_has ls 4 [(0, .ref (ad 0)), (1, .int (nI j)), (2, .int 1)] := hl
  have hkc := hI.kc
  have hvc := hI.vc
  have hgc := hI.gr
  have htc := hI.tc
  refine lv_aload_n hx hb dX5_turnHand_0 rfl (lv_at hl 0 rfl) ?_
  refine va_get (D := D) (ci := 5) (v := .ref (ad 8)) (C := RX5) (T := TX5) (N := 20) hx hb hts in_X5 hown hK hP 0 rfl rfl 8 (by decide) (hts _ kf_X5_31) (fun _ h9 => h9) rfl dX5_turnHand_1 ?_
  refine lv_iconst (v := 2) hx hb dX5_turnHand_4 (by decide) ?_
  refine lv_iload_n hx hb dX5_turnHand_5 rfl (lv_at hl 1 rfl) ?_
  refine lv_imul hx hb dX5_turnHand_6 ?_
  refine tp_i (z := (nI (2 * j))) (pk_mul 2 _) ?_
  refine lv_iload_n hx hb dX5_turnHand_7 rfl (lv_at hl 2 rfl) ?_
  refine lv_iadd hx hb dX5_turnHand_8 ?_
  refine tp_i (z := (nI ((2 * j) + 1))) (nI_1 _) ?_
  refine ar_g hx hb hK hP 8 rfl (by omega) (by decide) dX5_turnHand_9 ?_
  refine tp_i (z := (sRt σ j)) (mix_1 _ _ _) ?_
  refine tp_i (z := x) (hxe) ?_
  refine lv_istore_n (lv' := [(3, .int x), (0, .ref (ad 0)), (1, .int (nI j)), (2, .int 1)]) hx hb dX5_turnHand_10 rfl hl (by decide) rfl (fun ls hl => ?_)
  rcases hX with rfl | ⟨k, hk, rfl⟩
  · skip
    refine lv_iload_n hx hb dX5_turnHand_11 rfl (lv_at hl 0 rfl) ?_
    refine lv_iconst (v := (-1)) hx hb dX5_turnHand_12 (by decide) ?_
    refine lv_icmp_ne (tgt := 27) hx hb dX5_turnHand_13 (by decide) (fun c9 => absurd (rfl) c9) (fun _ => ?_)
    refine lv_aload_n hx hb dX5_turnHand_16 rfl (lv_at hl 1 rfl) ?_
    refine lv_bipush (v := 10) hx hb dX5_turnHand_17 (by decide) ?_
    refine lv_iload_n hx hb dX5_turnHand_19 rfl (lv_at hl 3 rfl) ?_
    refine lv_iadd hx hb dX5_turnHand_20 ?_
    refine cl_v (rest := []) (c_X5_enter l D cA ad A hDD σ (10 + 1) (by omega)) ⟨hx, hb, hml, hown, hts⟩ hK hP hS kv_X5_79 ⟨Nat.le_of_ble_eq_true rfl, Nat.le_of_ble_eq_true rfl⟩ ⟨Nat.zero_le _, Nat.zero_le _⟩ 0 rfl rfl rfl hl.1 rfl (Nat.le_of_ble_eq_true rfl) (fun q h => h) dX5_turnHand_21 (fun u H locs hw hP hS _ => ?_)
    rw [hw] at hP
    refine lv_bipush (v := (-4)) hx hb dX5_turnHand_24 (by decide) ?_
    exact rt_i (v := (-4)) (u := (wr (10 + 1) σ)) hx hb hr hlocks hS hP ((by rw [th_b]; exact ⟨rfl, rfl⟩)) dX5_turnHand_26
  · skip
    refine lv_iload_n hx hb dX5_turnHand_11 rfl (lv_at hl 0 rfl) ?_
    refine lv_iconst (v := (-1)) hx hb dX5_turnHand_12 (by decide) ?_
    refine lv_icmp_ne (tgt := 27) hx hb dX5_turnHand_13 (by decide) (fun _ => ?_) (fun c9 => absurd c9 (nI_nm1 (by omega)))
    refine lv_aload_n hx hb dX5_turnHand_27 rfl (lv_at hl 1 rfl) ?_
    refine lv_iload_n hx hb dX5_turnHand_28 rfl (lv_at hl 0 rfl) ?_
    refine cl_i (rest := []) (c_X5_turnKey l D cA ad A hDD σ k hI hk hg hb9) ⟨hx, hb, hml, hown, hts⟩ hK hP hS kv_X5_95 ⟨Nat.le_of_ble_eq_true rfl, Nat.le_of_ble_eq_true rfl⟩ ⟨Nat.zero_le _, Nat.zero_le _⟩ 0 rfl rfl rfl hl.1 rfl (Nat.le_of_ble_eq_true rfl) (fun q h => h) dX5_turnHand_29 (fun r u H locs hw hP hS _ => ?_)
    rw [hw.2] at hP
    refine tp_i (z := (tkm σ k).1) hw.1 ?_
    exact rt_i (v := (tkm σ k).1) (u := (tkm σ k).2) hx hb hr hlocks hS hP (tkm_th 1 (by omega)) dX5_turnHand_32
set_option maxHeartbeats 4000000 in
set_option maxRecDepth 100000 in
theorem c_X5_turnBoth (l : Launch) (D : va_G) (cA : ClassId) (ad : Nat → Nat) (A : Nat → Prop) (hDD : ∀ u, va_D A (rW ad cA u)) (σ : CS) (j : Nat) (hI : Inv σ) (hj : j < sVc σ) (hg : sGr σ + 2 ≤ 60) (hb9 : sBc σ + sGr σ ≤ 2000000000) : Ct l D cA (rW ad cA) A yX5_turnBoth cX5_turnBoth 3 (some .int) 6 128 [.ref (ad 0), .int (nI j)] σ (fun r u => r = (tb σ j).1 ∧ u = (tb σ j).2) := by
  refine Ct.of (by decide) (Nat.le_of_ble_eq_true rfl) ?_
  intro p e s m below meth c ls S0 hr hlocks hK hP hS hl
  obtain ⟨hx, hb, hml, hown, hts⟩ := id S0
  have hl : lv_has ls 3 [(0, .ref (ad 0)), (1, .int (nI j))] := hl
  have hkc := hI.kc
  have hvc := hI.vc
  have hgc := hI.gr
  have htc := hI.tc
  have s1 := th_st (h := 0) hI (hI.lf hj) (by omega)
  have g1 := th_gr (σ := σ) (x := sLf σ j) (h := 0)
  have hX2 : HX (sKc (th σ (sLf σ j) 0).2) (sRt σ j) := by rw [s1.2.2.2.1]; exact hI.rt hj
  have s2 := th_st (h := 1) s1.1 (x := sRt σ j) hX2 (by omega)
  have b1 := s1.2.2.2.2
  have b2 := s2.2.2.2.2
  have hj2 : j < sVc (th σ (sLf σ j) 0).2 := by rw [s1.2.1]; exact hj
  refine lv_aload_n hx hb dX5_turnBoth_0 rfl (lv_at hl 0 rfl) ?_
  refine lv_iload_n hx hb dX5_turnBoth_1 rfl (lv_at hl 1 rfl) ?_
  refine lv_iconst (v := 0) hx hb dX5_turnBoth_2 (by decide) ?_
  refine cl_i (rest := []) (c_X5_turnHand0 l D cA ad A hDD σ j (sLf σ j) rfl (hI.lf hj) hI hj (by omega) (by omega)) ⟨hx, hb, hml, hown, hts⟩ hK hP hS kv_X5_99 ⟨Nat.le_of_ble_eq_true rfl, Nat.le_of_ble_eq_true rfl⟩ ⟨Nat.zero_le _, Nat.zero_le _⟩ 0 rfl rfl rfl hl.1 rfl (Nat.le_of_ble_eq_true rfl) (fun q h => h) dX5_turnBoth_3 (fun r u H locs hw hP hS _ => ?_)
  rw [hw.2] at hP
  refine tp_i (z := (thr (th σ (sLf σ j) 0).1)) hw.1 ?_
  rcases th_012 σ (sLf σ j) 0 with q | q | q
  · rw [show thu (th σ (sLf σ j) 0) = (th σ (sLf σ j) 0).2 from by unfold thu; rw [if_neg (by rw [q]; decide)]] at hP
    refine tp_i (z := 0) (by rw [q]; rfl) ?_
    refine lv_istore_n (lv' := [(2, .int 0), (0, .ref (ad 0)), (1, .int (nI j))]) hx hb dX5_turnBoth_6 rfl hl (by decide) rfl (fun ls hl => ?_)
    refine lv_iload_n hx hb dX5_turnBoth_7 rfl (lv_at hl 0 rfl) ?_
    refine lv_if_ne (tgt := 18) hx hb dX5_turnBoth_8 (by decide) (fun c9 => absurd (by decide) c9) (fun _ => ?_)
    refine lv_aload_n hx hb dX5_turnBoth_11 rfl (lv_at hl 1 rfl) ?_
    refine lv_iload_n hx hb dX5_turnBoth_12 rfl (lv_at hl 2 rfl) ?_
    refine lv_iconst (v := 1) hx hb dX5_turnBoth_13 (by decide) ?_
    refine cl_i (rest := []) (c_X5_turnHand1 l D cA ad A hDD (th σ (sLf σ j) 0).2 j (sRt σ j) (by rw [← hd_1]; exact th_rt) hX2 s1.1 hj2 (by omega) (by omega)) ⟨hx, hb, hml, hown, hts⟩ hK hP hS kv_X5_99 ⟨Nat.le_of_ble_eq_true rfl, Nat.le_of_ble_eq_true rfl⟩ ⟨Nat.zero_le _, Nat.zero_le _⟩ 0 rfl rfl rfl hl.1 rfl (Nat.le_of_ble_eq_true rfl) (fun q h => h) dX5_turnBoth_14 (fun r u H locs hw hP hS _ => ?_)
    rw [hw.2] at hP
    refine tp_i (z := (thr (th (th σ (sLf σ j) 0).2 (sRt σ j) 1).1)) hw.1 ?_
    rcases th_012 (th σ (sLf σ j) 0).2 (sRt σ j) 1 with y | y | y
    · rw [show thu (th (th σ (sLf σ j) 0).2 (sRt σ j) 1) = (th (th σ (sLf σ j) 0).2 (sRt σ j) 1).2 from by unfold thu; rw [if_neg (by rw [y]; decide)]] at hP
      refine tp_i (z := 0) (by rw [y]; rfl) ?_
      refine lv_istore_n (lv' := [(2, .int 0), (0, .ref (ad 0)), (1, .int (nI j))]) hx hb dX5_turnBoth_17 rfl hl (by decide) rfl (fun ls hl => ?_)
      refine lv_iload_n hx hb dX5_turnBoth_18 rfl (lv_at hl 0 rfl) ?_
      refine lv_bipush (v := (-4)) hx hb dX5_turnBoth_19 (by decide) ?_
      refine lv_icmp_ne (tgt := 31) hx hb dX5_turnBoth_21 (by decide) (fun _ => ?_) (fun c9 => absurd c9 (by decide))
      refine lv_iload_n hx hb dX5_turnBoth_31 rfl (lv_at hl 0 rfl) ?_
      exact rt_i (v := 0) (u := (th (th σ (sLf σ j) 0).2 (sRt σ j) 1).2) hx hb hr hlocks hS hP (pr2 (by first | (unfold tb; rw [if_neg (by rw [q]; decide), if_neg (by rw [q]; decide), if_neg (by rw [y]; decide), if_neg (by rw [y]; decide)]; done) | (unfold tb; rw [if_neg (by rw [q]; decide), if_neg (by rw [q]; decide), if_neg (by rw [y]; decide), if_neg (by rw [y]; decide)]; rfl))) dX5_turnBoth_32
    · rw [show thu (th (th σ (sLf σ j) 0).2 (sRt σ j) 1) = (th (th σ (sLf σ j) 0).2 (sRt σ j) 1).2 from by unfold thu; rw [if_neg (by rw [y]; decide)]] at hP
      refine tp_i (z := (-4)) (by rw [y]; rfl) ?_
      refine lv_istore_n (lv' := [(2, .int (-4)), (0, .ref (ad 0)), (1, .int (nI j))]) hx hb dX5_turnBoth_17 rfl hl (by decide) rfl (fun ls hl => ?_)
      refine lv_iload_n hx hb dX5_turnBoth_18 rfl (lv_at hl 0 rfl) ?_
      refine lv_bipush (v := (-4)) hx hb dX5_turnBoth_19 (by decide) ?_
      refine lv_icmp_ne (tgt := 31) hx hb dX5_turnBoth_21 (by decide) (fun c9 => absurd (by decide) c9) (fun _ => ?_)
      refine lv_aload_n hx hb dX5_turnBoth_24 rfl (lv_at hl 1 rfl) ?_
      refine lv_sipush (v := 300) hx hb dX5_turnBoth_25 (by decide) ?_
      refine cl_v (rest := []) (c_X5_dropAll l D cA ad A hDD (th (th σ (sLf σ j) 0).2 (sRt σ j) 1).2 300 s2.1 (by omega)) ⟨hx, hb, hml, hown, hts⟩ hK hP hS kv_X5_86 ⟨Nat.le_of_ble_eq_true rfl, Nat.le_of_ble_eq_true rfl⟩ ⟨Nat.zero_le _, Nat.zero_le _⟩ 0 rfl rfl rfl hl.1 rfl (Nat.le_of_ble_eq_true rfl) (fun q h => h) dX5_turnBoth_28 (fun u H locs hw hP hS _ => ?_)
      rw [hw] at hP
      refine lv_iload_n hx hb dX5_turnBoth_31 rfl (lv_at hl 0 rfl) ?_
      exact rt_i (v := (-4)) (u := (da 300 (th (th σ (sLf σ j) 0).2 (sRt σ j) 1).2)) hx hb hr hlocks hS hP (pr2 (by first | (unfold tb; rw [if_neg (by rw [q]; decide), if_neg (by rw [q]; decide), if_pos y]; done) | (unfold tb; rw [if_neg (by rw [q]; decide), if_neg (by rw [q]; decide), if_pos y]; rfl))) dX5_turnBoth_32
    · rw [show thu (th (th σ (sLf σ j) 0).2 (sRt σ j) 1) = ra (th (th σ (sLf σ j) 0).2 (sRt σ j) 1).2 from by unfold thu; rw [if_pos y]] at hP
      refine tp_i (z := (-7)) (by rw [y]; rfl) ?_
      refine lv_istore_n (lv' := [(2, .int (-7)), (0, .ref (ad 0)), (1, .int (nI j))]) hx hb dX5_turnBoth_17 rfl hl (by decide) rfl (fun ls hl => ?_)
      refine lv_iload_n hx hb dX5_turnBoth_18 rfl (lv_at hl 0 rfl) ?_
      refine lv_bipush (v := (-4)) hx hb dX5_turnBoth_19 (by decide) ?_
      refine lv_icmp_ne (tgt := 31) hx hb dX5_turnBoth_21 (by decide) (fun _ => ?_) (fun c9 => absurd c9 (by decide))
      refine lv_iload_n hx hb dX5_turnBoth_31 rfl (lv_at hl 0 rfl) ?_
      exact rt_i (v := (-7)) (u := (ra (th (th σ (sLf σ j) 0).2 (sRt σ j) 1).2)) hx hb hr hlocks hS hP (pr2 (by first | (unfold tb; rw [if_neg (by rw [q]; decide), if_neg (by rw [q]; decide), if_neg (by rw [y]; decide), if_pos y]; done) | (unfold tb; rw [if_neg (by rw [q]; decide), if_neg (by rw [q]; decide), if_neg (by rw [y]; decide), if_pos y]; rfl))) dX5_turnBoth_32
  · rw [show thu (th σ (sLf σ j) 0) = (th σ (sLf σ j) 0).2 from by unfold thu; rw [if_neg (by rw [q]; decide)]] at hP
    refine tp_i (z := (-4)) (by rw [q]; rfl) ?_
    refine lv_istore_n (lv' := [(2, .int (-4)), (0, .ref (ad 0)), (1, .int (nI j))]) hx hb dX5_turnBoth_6 rfl hl (by decide) rfl (fun ls hl => ?_)
    refine lv_iload_n hx hb dX5_turnBoth_7 rfl (lv_at hl 0 rfl) ?_
    refine lv_if_ne (tgt := 18) hx hb dX5_turnBoth_8 (by decide) (fun _ => ?_) (fun c9 => absurd c9 (by decide))
    refine lv_iload_n hx hb dX5_turnBoth_18 rfl (lv_at hl 0 rfl) ?_
    refine lv_bipush (v := (-4)) hx hb dX5_turnBoth_19 (by decide) ?_
    refine lv_icmp_ne (tgt := 31) hx hb dX5_turnBoth_21 (by decide) (fun c9 => absurd (by decide) c9) (fun _ => ?_)
    refine lv_aload_n hx hb dX5_turnBoth_24 rfl (lv_at hl 1 rfl) ?_
    refine lv_sipush (v := 300) hx hb dX5_turnBoth_25 (by decide) ?_
    refine cl_v (rest := []) (c_X5_dropAll l D cA ad A hDD (th σ (sLf σ j) 0).2 300 s1.1 (by omega)) ⟨hx, hb, hml, hown, hts⟩ hK hP hS kv_X5_86 ⟨Nat.le_of_ble_eq_true rfl, Nat.le_of_ble_eq_true rfl⟩ ⟨Nat.zero_le _, Nat.zero_le _⟩ 0 rfl rfl rfl hl.1 rfl (Nat.le_of_ble_eq_true rfl) (fun q h => h) dX5_turnBoth_28 (fun u H locs hw hP hS _ => ?_)
    rw [hw] at hP
    refine lv_iload_n hx hb dX5_turnBoth_31 rfl (lv_at hl 0 rfl) ?_
    exact rt_i (v := (-4)) (u := (da 300 (th σ (sLf σ j) 0).2)) hx hb hr hlocks hS hP (pr2 (by first | (unfold tb; rw [if_pos q]; done) | (unfold tb; rw [if_pos q]; rfl))) dX5_turnBoth_32
  · rw [show thu (th σ (sLf σ j) 0) = ra (th σ (sLf σ j) 0).2 from by unfold thu; rw [if_pos q]] at hP
    refine tp_i (z := (-7)) (by rw [q]; rfl) ?_
    refine lv_istore_n (lv' := [(2, .int (-7)), (0, .ref (ad 0)), (1, .int (nI j))]) hx hb dX5_turnBoth_6 rfl hl (by decide) rfl (fun ls hl => ?_)
    refine lv_iload_n hx hb dX5_turnBoth_7 rfl (lv_at hl 0 rfl) ?_
    refine lv_if_ne (tgt := 18) hx hb dX5_turnBoth_8 (by decide) (fun _ => ?_) (fun c9 => absurd c9 (by decide))
    refine lv_iload_n hx hb dX5_turnBoth_18 rfl (lv_at hl 0 rfl) ?_
    refine lv_bipush (v := (-4)) hx hb dX5_turnBoth_19 (by decide) ?_
    refine lv_icmp_ne (tgt := 31) hx hb dX5_turnBoth_21 (by decide) (fun _ => ?_) (fun c9 => absurd c9 (by decide))
    refine lv_iload_n hx hb dX5_turnBoth_31 rfl (lv_at hl 0 rfl) ?_
    exact rt_i (v := (-7)) (u := (ra (th σ (sLf σ j) 0).2)) hx hb hr hlocks hS hP (pr2 (by first | (unfold tb; rw [if_neg (by rw [q]; decide), if_pos q]; done) | (unfold tb; rw [if_neg (by rw [q]; decide), if_pos q]; rfl))) dX5_turnBoth_32
end
section
set_option maxHeartbeats 4000000 in
set_option maxRecDepth 100000 in
theorem c_X4_key (l : Launch) (D : va_G) (cA : ClassId) (ad : Nat → Nat) (A : Nat → Prop) (hDD : ∀ u, va_D A (cW ad cA u)) (σ : CS) (t mm : Int32) (hI : Inv σ) (hg : sGr σ = 0) (hb9 : sBc σ ≤ 1000000000) : Ct l D cA (cW ad cA) A yX4_key cX4_key 3 (some .int) 1 22 [.ref (ad 0), .int t, .int mm] σ (fun r u => r = (f_key σ t mm).1 ∧ u = (f_key σ t mm).2) := by
  refine Ct.of (by decide) (Nat.le_of_ble_eq_true rfl) ?_
  intro p e s m below meth c ls S0 hr hlocks hK hP hS hl
  obtain ⟨hx, hb, hml, hown, hts⟩ := id S0
  have hl : lv_has ls 3 [(0, .ref (ad 0)), (1, .int t), (2, .int mm)] := hl
  have hkc := hI.kc
  have hvc := hI.vc
  have hgc := hI.gr
  have htc := hI.tc
  by_cases ht : 1 ≤ t ∧ t ≤ 9
  · skip
    refine lv_iload_n hx hb dX4_key_0 rfl (lv_at hl 1 rfl) ?_
    refine lv_iconst (v := 1) hx hb dX4_key_1 (by decide) ?_
    refine lv_bipush (v := 9) hx hb dX4_key_2 (by decide) ?_
    refine cl_s (rest := []) (c_X4_isWithin l D cA ad A hDD σ t 1 9 ) ⟨hx, hb, hml, hown, hts⟩ hK hP hS kv_X4_48 ⟨Nat.le_of_ble_eq_true rfl, Nat.le_of_ble_eq_true rfl⟩ ⟨Nat.zero_le _, Nat.zero_le _⟩ rfl hl.1 rfl (Nat.le_of_ble_eq_true rfl) (fun q h => h) dX4_key_4 (fun r u H locs hw hP hS => ?_)
    rw [hw.2] at hP
    refine tp_i (z := (bz (1 ≤ t ∧ t ≤ 9))) hw.1 ?_
    refine tp_i (z := 1) (bz_1 ht) ?_
    refine lv_if_ne (tgt := 13) hx hb dX4_key_7 (by decide) (fun _ => ?_) (fun c9 => absurd c9 (by decide))
    refine lv_aload_n hx hb dX4_key_13 rfl (lv_at hl 0 rfl) ?_
    refine va_get (D := D) (ci := 4) (v := .ref (ad 1)) (C := RX4) (T := TX4) (N := 7) hx hb hts in_X4 hown hK hP 0 rfl rfl 0 (by decide) (hts _ kf_X4_10) (fun _ h9 => h9) rfl dX4_key_14 ?_
    refine lv_iload_n hx hb dX4_key_17 rfl (lv_at hl 1 rfl) ?_
    refine lv_iload_n hx hb dX4_key_18 rfl (lv_at hl 2 rfl) ?_
    refine lv_if_eq (tgt := 26) hx hb dX4_key_19 (by decide) (fun c19 => ?_) (fun c19 => ?_)
    · refine lv_iconst (v := 1) hx hb dX4_key_26 (by decide) ?_
      refine cl_i (rest := []) (c_X1_add l D cA ad A hDD σ t 1 hkc) ⟨hx, hb, hml, hown, hts⟩ hK hP hS kv_X4_52 ⟨Nat.le_of_ble_eq_true rfl, Nat.le_of_ble_eq_true rfl⟩ ⟨Nat.zero_le _, Nat.zero_le _⟩ 1 rfl rfl rfl hl.1 rfl (Nat.le_of_ble_eq_true rfl) (fun q h => h) dX4_key_27 (fun r u H locs hw hP hS _ => ?_)
      rw [hw.2] at hP
      refine tp_i (z := (a_key σ t 1).1) hw.1 ?_
      exact rt_i (v := (a_key σ t 1).1) (u := (a_key σ t 1).2) hx hb hr hlocks hS hP ((by rw [f_key_a hI hg ht (if_pos c19)]; exact ⟨rfl, rfl⟩)) dX4_key_30
    · refine lv_iconst (v := 2) hx hb dX4_key_22 (by decide) ?_
      refine lv_goto (tgt := 27) hx hb dX4_key_23 (by decide) ?_
      refine cl_i (rest := []) (c_X1_add l D cA ad A hDD σ t 2 hkc) ⟨hx, hb, hml, hown, hts⟩ hK hP hS kv_X4_52 ⟨Nat.le_of_ble_eq_true rfl, Nat.le_of_ble_eq_true rfl⟩ ⟨Nat.zero_le _, Nat.zero_le _⟩ 1 rfl rfl rfl hl.1 rfl (Nat.le_of_ble_eq_true rfl) (fun q h => h) dX4_key_27 (fun r u H locs hw hP hS _ => ?_)
      rw [hw.2] at hP
      refine tp_i (z := (a_key σ t 2).1) hw.1 ?_
      exact rt_i (v := (a_key σ t 2).1) (u := (a_key σ t 2).2) hx hb hr hlocks hS hP ((by rw [f_key_a hI hg ht (if_neg c19)]; exact ⟨rfl, rfl⟩)) dX4_key_30
  · skip
    refine lv_iload_n hx hb dX4_key_0 rfl (lv_at hl 1 rfl) ?_
    refine lv_iconst (v := 1) hx hb dX4_key_1 (by decide) ?_
    refine lv_bipush (v := 9) hx hb dX4_key_2 (by decide) ?_
    refine cl_s (rest := []) (c_X4_isWithin l D cA ad A hDD σ t 1 9 ) ⟨hx, hb, hml, hown, hts⟩ hK hP hS kv_X4_48 ⟨Nat.le_of_ble_eq_true rfl, Nat.le_of_ble_eq_true rfl⟩ ⟨Nat.zero_le _, Nat.zero_le _⟩ rfl hl.1 rfl (Nat.le_of_ble_eq_true rfl) (fun q h => h) dX4_key_4 (fun r u H locs hw hP hS => ?_)
    rw [hw.2] at hP
    refine tp_i (z := (bz (1 ≤ t ∧ t ≤ 9))) hw.1 ?_
    refine tp_i (z := 0) (bz_0 ht) ?_
    refine lv_if_ne (tgt := 13) hx hb dX4_key_7 (by decide) (fun c9 => absurd (by decide) c9) (fun _ => ?_)
    refine lv_bipush (v := (-2)) hx hb dX4_key_10 (by decide) ?_
    exact rt_i (v := (-2)) (u := σ) hx hb hr hlocks hS hP (pr2 (if_neg ht)) dX4_key_12
set_option maxHeartbeats 4000000 in
set_option maxRecDepth 100000 in
theorem c_X4_vault (l : Launch) (D : va_G) (cA : ClassId) (ad : Nat → Nat) (A : Nat → Prop) (hDD : ∀ u, va_D A (cW ad cA u)) (σ : CS) (x : Int32) (hI : Inv σ) (hg : sGr σ = 0) (hb9 : sBc σ ≤ 1000000000) : Ct l D cA (cW ad cA) A yX4_vault cX4_vault 2 (some .int) 1 22 [.ref (ad 0), .int x] σ (fun r u => r = (f_vault σ x).1 ∧ u = (f_vault σ x).2) := by
  refine Ct.of (by decide) (Nat.le_of_ble_eq_true rfl) ?_
  intro p e s m below meth c ls S0 hr hlocks hK hP hS hl
  obtain ⟨hx, hb, hml, hown, hts⟩ := id S0
  have hl : lv_has ls 2 [(0, .ref (ad 0)), (1, .int x)] := hl
  have hkc := hI.kc
  have hvc := hI.vc
  have hgc := hI.gr
  have htc := hI.tc
  by_cases hn : amt x
  · skip
    refine lv_iload_n hx hb dX4_vault_0 rfl (lv_at hl 1 rfl) ?_
    refine lv_iconst (v := 0) hx hb dX4_vault_1 (by decide) ?_
    refine lv_ldc (v := 1000000) hx hb hown (hts _ kc_X4_56) dX4_vault_2 ?_
    refine cl_s (rest := []) (c_X4_isWithin l D cA ad A hDD σ x 0 1000000 ) ⟨hx, hb, hml, hown, hts⟩ hK hP hS kv_X4_48 ⟨Nat.le_of_ble_eq_true rfl, Nat.le_of_ble_eq_true rfl⟩ ⟨Nat.zero_le _, Nat.zero_le _⟩ rfl hl.1 rfl (Nat.le_of_ble_eq_true rfl) (fun q h => h) dX4_vault_4 (fun r u H locs hw hP hS => ?_)
    rw [hw.2] at hP
    refine tp_i (z := (bz (0 ≤ x ∧ x ≤ 1000000))) hw.1 ?_
    refine tp_i (z := 1) (bz_1 hn) ?_
    refine lv_if_ne (tgt := 13) hx hb dX4_vault_7 (by decide) (fun _ => ?_) (fun c9 => absurd c9 (by decide))
    refine lv_aload_n hx hb dX4_vault_13 rfl (lv_at hl 0 rfl) ?_
    refine va_get (D := D) (ci := 4) (v := .ref (ad 2)) (C := RX4) (T := TX4) (N := 7) hx hb hts in_X4 hown hK hP 0 rfl rfl 1 (by decide) (hts _ kf_X4_19) (fun _ h9 => h9) rfl dX4_vault_14 ?_
    refine lv_iload_n hx hb dX4_vault_17 rfl (lv_at hl 1 rfl) ?_
    refine cl_i (rest := []) (c_X3_add l D cA ad A hDD σ x hvc) ⟨hx, hb, hml, hown, hts⟩ hK hP hS kv_X4_57 ⟨Nat.le_of_ble_eq_true rfl, Nat.le_of_ble_eq_true rfl⟩ ⟨Nat.zero_le _, Nat.zero_le _⟩ 2 rfl rfl rfl hl.1 rfl (Nat.le_of_ble_eq_true rfl) (fun q h => h) dX4_vault_18 (fun r u H locs hw hP hS _ => ?_)
    rw [hw.2] at hP
    refine tp_i (z := (a_vault σ x).1) hw.1 ?_
    exact rt_i (v := (a_vault σ x).1) (u := (a_vault σ x).2) hx hb hr hlocks hS hP ((by rw [f_vault_a hI hn]; exact ⟨rfl, rfl⟩)) dX4_vault_21
  · skip
    refine lv_iload_n hx hb dX4_vault_0 rfl (lv_at hl 1 rfl) ?_
    refine lv_iconst (v := 0) hx hb dX4_vault_1 (by decide) ?_
    refine lv_ldc (v := 1000000) hx hb hown (hts _ kc_X4_56) dX4_vault_2 ?_
    refine cl_s (rest := []) (c_X4_isWithin l D cA ad A hDD σ x 0 1000000 ) ⟨hx, hb, hml, hown, hts⟩ hK hP hS kv_X4_48 ⟨Nat.le_of_ble_eq_true rfl, Nat.le_of_ble_eq_true rfl⟩ ⟨Nat.zero_le _, Nat.zero_le _⟩ rfl hl.1 rfl (Nat.le_of_ble_eq_true rfl) (fun q h => h) dX4_vault_4 (fun r u H locs hw hP hS => ?_)
    rw [hw.2] at hP
    refine tp_i (z := (bz (0 ≤ x ∧ x ≤ 1000000))) hw.1 ?_
    refine tp_i (z := 0) (bz_0 hn) ?_
    refine lv_if_ne (tgt := 13) hx hb dX4_vault_7 (by decide) (fun c9 => absurd (by decide) c9) (fun _ => ?_)
    refine lv_bipush (v := (-2)) hx hb dX4_vault_10 (by decide) ?_
    exact rt_i (v := (-2)) (u := σ) hx hb hr hlocks hS hP (pr2 (if_neg hn)) dX4_vault_12
set_option maxHeartbeats 4000000 in
set_option maxRecDepth 100000 in
theorem c_X4_hang (l : Launch) (D : va_G) (cA : ClassId) (ad : Nat → Nat) (A : Nat → Prop) (hDD : ∀ u, va_D A (cW ad cA u)) (σ : CS) (v h k : Int32) (hI : Inv σ) (hg : sGr σ = 0) (hb9 : sBc σ ≤ 1000000000) : Ct l D cA (cW ad cA) A yX4_hang cX4_hang 5 (some .int) 2 44 [.ref (ad 0), .int v, .int h, .int k] σ (fun r u => r = (f_hang σ v h k).1 ∧ u = (f_hang σ v h k).2) := by
  refine Ct.of (by decide) (Nat.le_of_ble_eq_true rfl) ?_
  intro p e s m below meth c ls S0 hr hlocks hK hP hS hl
  obtain ⟨hx, hb, hml, hown, hts⟩ := id S0
  have hl : lv_has ls 5 [(0, .ref (ad 0)), (1, .int v), (2, .int h), (3, .int k)] := hl
  have hkc := hI.kc
  have hvc := hI.vc
  have hgc := hI.gr
  have htc := hI.tc
  rcases ix_cases (n := sVc σ) v (by omega) with h0 | ⟨j, hj, rfl⟩
  · refine lv_aload_n hx hb dX4_hang_0 rfl (lv_at hl 0 rfl) ?_
    refine va_get (D := D) (ci := 4) (v := .ref (ad 2)) (C := RX4) (T := TX4) (N := 7) hx hb hts in_X4 hown hK hP 0 rfl rfl 1 (by decide) (hts _ kf_X4_19) (fun _ h9 => h9) rfl dX4_hang_1 ?_
    refine lv_iload_n hx hb dX4_hang_4 rfl (lv_at hl 1 rfl) ?_
    refine lv_iload_n hx hb dX4_hang_5 rfl (lv_at hl 2 rfl) ?_
    refine cl_i (rest := []) (c_X3_hasHand l D cA ad A hDD σ v h hvc) ⟨hx, hb, hml, hown, hts⟩ hK hP hS kv_X4_60 ⟨Nat.le_of_ble_eq_true rfl, Nat.le_of_ble_eq_true rfl⟩ ⟨Nat.zero_le _, Nat.zero_le _⟩ 2 rfl rfl rfl hl.1 rfl (Nat.le_of_ble_eq_true rfl) (fun q h => h) dX4_hang_6 (fun r u H locs hw hP hS _ => ?_)
    rw [hw.2] at hP
    refine tp_i (z := (bz ((ix (sVc σ) v).isSome = true ∧ okh h))) hw.1 ?_
    refine tp_i (z := 0) (bz_0 (fun q => ix_none_s h0 q.1)) ?_
    refine lv_if_eq (tgt := 28) hx hb dX4_hang_9 (by decide) (fun _ => ?_) (fun c9 => absurd (by decide) c9)
    refine lv_bipush (v := (-2)) hx hb dX4_hang_28 (by decide) ?_
    exact rt_i (v := (-2)) (u := σ) hx hb hr hlocks hS hP (pr2 (hang_b1 h0)) dX4_hang_30
  · have h0 := ix_nI hj (n := sVc σ) (by omega)
    refine lv_aload_n hx hb dX4_hang_0 rfl (lv_at hl 0 rfl) ?_
    by_cases hh : okh h
    · skip
      refine va_get (D := D) (ci := 4) (v := .ref (ad 2)) (C := RX4) (T := TX4) (N := 7) hx hb hts in_X4 hown hK hP 0 rfl rfl 1 (by decide) (hts _ kf_X4_19) (fun _ h9 => h9) rfl dX4_hang_1 ?_
      refine lv_iload_n hx hb dX4_hang_4 rfl (lv_at hl 1 rfl) ?_
      refine lv_iload_n hx hb dX4_hang_5 rfl (lv_at hl 2 rfl) ?_
      refine cl_i (rest := []) (c_X3_hasHand l D cA ad A hDD σ (nI j) h hvc) ⟨hx, hb, hml, hown, hts⟩ hK hP hS kv_X4_60 ⟨Nat.le_of_ble_eq_true rfl, Nat.le_of_ble_eq_true rfl⟩ ⟨Nat.zero_le _, Nat.zero_le _⟩ 2 rfl rfl rfl hl.1 rfl (Nat.le_of_ble_eq_true rfl) (fun q h => h) dX4_hang_6 (fun r u H locs hw hP hS _ => ?_)
      rw [hw.2] at hP
      refine tp_i (z := (bz ((ix (sVc σ) (nI j)).isSome = true ∧ okh h))) hw.1 ?_
      refine tp_i (z := 1) (bz_1 ⟨ix_some_s h0, hh⟩) ?_
      refine lv_if_eq (tgt := 28) hx hb dX4_hang_9 (by decide) (fun c9 => absurd c9 (by decide)) (fun _ => ?_)
      refine lv_iload_n hx hb dX4_hang_12 rfl (lv_at hl 3 rfl) ?_
      refine lv_iconst (v := (-1)) hx hb dX4_hang_13 (by decide) ?_
      refine lv_icmp_eq (tgt := 31) hx hb dX4_hang_14 (by decide) (fun c14 => ?_) (fun c14 => ?_)
      · refine lv_aload_n hx hb dX4_hang_31 rfl (lv_at hl 0 rfl) ?_
        refine va_get (D := D) (ci := 4) (v := .ref (ad 2)) (C := RX4) (T := TX4) (N := 7) hx hb hts in_X4 hown hK hP 0 rfl rfl 1 (by decide) (hts _ kf_X4_19) (fun _ h9 => h9) rfl dX4_hang_32 ?_
        refine lv_iload_n hx hb dX4_hang_35 rfl (lv_at hl 1 rfl) ?_
        refine lv_iload_n hx hb dX4_hang_36 rfl (lv_at hl 2 rfl) ?_
        refine cl_i (rest := []) (c_X3_keyAt l D cA ad A hDD σ j h hj hvc) ⟨hx, hb, hml, hown, hts⟩ hK hP hS kv_X4_68 ⟨Nat.le_of_ble_eq_true rfl, Nat.le_of_ble_eq_true rfl⟩ ⟨Nat.zero_le _, Nat.zero_le _⟩ 2 rfl rfl rfl hl.1 rfl (Nat.le_of_ble_eq_true rfl) (fun q h => h) dX4_hang_37 (fun r u H locs hw hP hS _ => ?_)
        rw [hw.2] at hP
        refine tp_i (z := (hd σ j h)) hw.1 ?_
        refine lv_istore (lv' := [(4, .int (hd σ j h)), (0, .ref (ad 0)), (1, .int (nI j)), (2, .int h), (3, .int k)]) hx hb dX4_hang_40 hl (by decide) rfl (fun ls hl => ?_)
        refine lv_aload_n hx hb dX4_hang_42 rfl (lv_at hl 1 rfl) ?_
        refine va_get (D := D) (ci := 4) (v := .ref (ad 2)) (C := RX4) (T := TX4) (N := 7) hx hb hts in_X4 hown hK hP 0 rfl rfl 1 (by decide) (hts _ kf_X4_19) (fun _ h9 => h9) rfl dX4_hang_43 ?_
        refine lv_iload_n hx hb dX4_hang_46 rfl (lv_at hl 2 rfl) ?_
        refine lv_iload_n hx hb dX4_hang_47 rfl (lv_at hl 3 rfl) ?_
        refine lv_iload_n hx hb dX4_hang_48 rfl (lv_at hl 4 rfl) ?_
        refine cl_v (rest := []) (c_X3_setKeyAt l D cA ad A hDD σ j h k hj hvc) ⟨hx, hb, hml, hown, hts⟩ hK hP hS kv_X4_71 ⟨Nat.le_of_ble_eq_true rfl, Nat.le_of_ble_eq_true rfl⟩ ⟨Nat.zero_le _, Nat.zero_le _⟩ 2 rfl rfl rfl hl.1 rfl (Nat.le_of_ble_eq_true rfl) (fun q h => h) dX4_hang_49 (fun u H locs hw hP hS _ => ?_)
        rw [hw] at hP
        refine lv_iload hx hb dX4_hang_52 (lv_at hl 0 rfl) ?_
        exact rt_i (v := (hd σ j h)) (u := (shk σ j h k)) hx hb hr hlocks hS hP (pr2 (hang_ok h0 hh (Or.inl c14))) dX4_hang_54
      · rcases ix_cases (n := sKc σ) k (by omega) with hq | ⟨i, hi, rfl⟩
        · refine lv_aload_n hx hb dX4_hang_17 rfl (lv_at hl 0 rfl) ?_
          refine va_get (D := D) (ci := 4) (v := .ref (ad 1)) (C := RX4) (T := TX4) (N := 7) hx hb hts in_X4 hown hK hP 0 rfl rfl 0 (by decide) (hts _ kf_X4_10) (fun _ h9 => h9) rfl dX4_hang_18 ?_
          refine lv_iload_n hx hb dX4_hang_21 rfl (lv_at hl 3 rfl) ?_
          refine cl_i (rest := []) (c_X1_has l D cA ad A hDD σ k ) ⟨hx, hb, hml, hown, hts⟩ hK hP hS kv_X4_64 ⟨Nat.le_of_ble_eq_true rfl, Nat.le_of_ble_eq_true rfl⟩ ⟨Nat.zero_le _, Nat.zero_le _⟩ 1 rfl rfl rfl hl.1 rfl (Nat.le_of_ble_eq_true rfl) (fun q h => h) dX4_hang_22 (fun r u H locs hw hP hS _ => ?_)
          rw [hw.2] at hP
          refine tp_i (z := (hz (sKc σ) k)) hw.1 ?_
          refine tp_i (z := 0) (hz_0 hq) ?_
          refine lv_if_ne (tgt := 31) hx hb dX4_hang_25 (by decide) (fun c9 => absurd (by decide) c9) (fun _ => ?_)
          refine lv_bipush (v := (-2)) hx hb dX4_hang_28 (by decide) ?_
          exact rt_i (v := (-2)) (u := σ) hx hb hr hlocks hS hP (pr2 (hang_b2 h0 (fun q => q.2.elim c14 (ix_none_s hq)))) dX4_hang_30
        · have hq := ix_nI hi (n := sKc σ) (by omega)
          refine lv_aload_n hx hb dX4_hang_17 rfl (lv_at hl 0 rfl) ?_
          refine va_get (D := D) (ci := 4) (v := .ref (ad 1)) (C := RX4) (T := TX4) (N := 7) hx hb hts in_X4 hown hK hP 0 rfl rfl 0 (by decide) (hts _ kf_X4_10) (fun _ h9 => h9) rfl dX4_hang_18 ?_
          refine lv_iload_n hx hb dX4_hang_21 rfl (lv_at hl 3 rfl) ?_
          refine cl_i (rest := []) (c_X1_has l D cA ad A hDD σ (nI i) ) ⟨hx, hb, hml, hown, hts⟩ hK hP hS kv_X4_64 ⟨Nat.le_of_ble_eq_true rfl, Nat.le_of_ble_eq_true rfl⟩ ⟨Nat.zero_le _, Nat.zero_le _⟩ 1 rfl rfl rfl hl.1 rfl (Nat.le_of_ble_eq_true rfl) (fun q h => h) dX4_hang_22 (fun r u H locs hw hP hS _ => ?_)
          rw [hw.2] at hP
          refine tp_i (z := (hz (sKc σ) (nI i))) hw.1 ?_
          refine tp_i (z := 1) (hz_1 hq) ?_
          refine lv_if_ne (tgt := 31) hx hb dX4_hang_25 (by decide) (fun _ => ?_) (fun c9 => absurd c9 (by decide))
          refine lv_aload_n hx hb dX4_hang_31 rfl (lv_at hl 0 rfl) ?_
          refine va_get (D := D) (ci := 4) (v := .ref (ad 2)) (C := RX4) (T := TX4) (N := 7) hx hb hts in_X4 hown hK hP 0 rfl rfl 1 (by decide) (hts _ kf_X4_19) (fun _ h9 => h9) rfl dX4_hang_32 ?_
          refine lv_iload_n hx hb dX4_hang_35 rfl (lv_at hl 1 rfl) ?_
          refine lv_iload_n hx hb dX4_hang_36 rfl (lv_at hl 2 rfl) ?_
          refine cl_i (rest := []) (c_X3_keyAt l D cA ad A hDD σ j h hj hvc) ⟨hx, hb, hml, hown, hts⟩ hK hP hS kv_X4_68 ⟨Nat.le_of_ble_eq_true rfl, Nat.le_of_ble_eq_true rfl⟩ ⟨Nat.zero_le _, Nat.zero_le _⟩ 2 rfl rfl rfl hl.1 rfl (Nat.le_of_ble_eq_true rfl) (fun q h => h) dX4_hang_37 (fun r u H locs hw hP hS _ => ?_)
          rw [hw.2] at hP
          refine tp_i (z := (hd σ j h)) hw.1 ?_
          refine lv_istore (lv' := [(4, .int (hd σ j h)), (0, .ref (ad 0)), (1, .int (nI j)), (2, .int h), (3, .int (nI i))]) hx hb dX4_hang_40 hl (by decide) rfl (fun ls hl => ?_)
          refine lv_aload_n hx hb dX4_hang_42 rfl (lv_at hl 1 rfl) ?_
          refine va_get (D := D) (ci := 4) (v := .ref (ad 2)) (C := RX4) (T := TX4) (N := 7) hx hb hts in_X4 hown hK hP 0 rfl rfl 1 (by decide) (hts _ kf_X4_19) (fun _ h9 => h9) rfl dX4_hang_43 ?_
          refine lv_iload_n hx hb dX4_hang_46 rfl (lv_at hl 2 rfl) ?_
          refine lv_iload_n hx hb dX4_hang_47 rfl (lv_at hl 3 rfl) ?_
          refine lv_iload_n hx hb dX4_hang_48 rfl (lv_at hl 4 rfl) ?_
          refine cl_v (rest := []) (c_X3_setKeyAt l D cA ad A hDD σ j h (nI i) hj hvc) ⟨hx, hb, hml, hown, hts⟩ hK hP hS kv_X4_71 ⟨Nat.le_of_ble_eq_true rfl, Nat.le_of_ble_eq_true rfl⟩ ⟨Nat.zero_le _, Nat.zero_le _⟩ 2 rfl rfl rfl hl.1 rfl (Nat.le_of_ble_eq_true rfl) (fun q h => h) dX4_hang_49 (fun u H locs hw hP hS _ => ?_)
          rw [hw] at hP
          refine lv_iload hx hb dX4_hang_52 (lv_at hl 0 rfl) ?_
          exact rt_i (v := (hd σ j h)) (u := (shk σ j h (nI i))) hx hb hr hlocks hS hP (pr2 (hang_ok h0 hh (Or.inr (ix_some_s hq)))) dX4_hang_54
    · skip
      refine va_get (D := D) (ci := 4) (v := .ref (ad 2)) (C := RX4) (T := TX4) (N := 7) hx hb hts in_X4 hown hK hP 0 rfl rfl 1 (by decide) (hts _ kf_X4_19) (fun _ h9 => h9) rfl dX4_hang_1 ?_
      refine lv_iload_n hx hb dX4_hang_4 rfl (lv_at hl 1 rfl) ?_
      refine lv_iload_n hx hb dX4_hang_5 rfl (lv_at hl 2 rfl) ?_
      refine cl_i (rest := []) (c_X3_hasHand l D cA ad A hDD σ (nI j) h hvc) ⟨hx, hb, hml, hown, hts⟩ hK hP hS kv_X4_60 ⟨Nat.le_of_ble_eq_true rfl, Nat.le_of_ble_eq_true rfl⟩ ⟨Nat.zero_le _, Nat.zero_le _⟩ 2 rfl rfl rfl hl.1 rfl (Nat.le_of_ble_eq_true rfl) (fun q h => h) dX4_hang_6 (fun r u H locs hw hP hS _ => ?_)
      rw [hw.2] at hP
      refine tp_i (z := (bz ((ix (sVc σ) (nI j)).isSome = true ∧ okh h))) hw.1 ?_
      refine tp_i (z := 0) (bz_0 (fun q => hh q.2)) ?_
      refine lv_if_eq (tgt := 28) hx hb dX4_hang_9 (by decide) (fun _ => ?_) (fun c9 => absurd (by decide) c9)
      refine lv_bipush (v := (-2)) hx hb dX4_hang_28 (by decide) ?_
      exact rt_i (v := (-2)) (u := σ) hx hb hr hlocks hS hP (pr2 (hang_b2 h0 (fun q => hh q.1))) dX4_hang_30
set_option maxHeartbeats 4000000 in
set_option maxRecDepth 100000 in
theorem c_X4_link (l : Launch) (D : va_G) (cA : ClassId) (ad : Nat → Nat) (A : Nat → Prop) (hDD : ∀ u, va_D A (cW ad cA u)) (σ : CS) (v w : Int32) (hI : Inv σ) (hg : sGr σ = 0) (hb9 : sBc σ ≤ 1000000000) : Ct l D cA (cW ad cA) A yX4_link cX4_link 4 (some .int) 1 21 [.ref (ad 0), .int v, .int w] σ (fun r u => r = (f_link σ v w).1 ∧ u = (f_link σ v w).2) := by
  refine Ct.of (by decide) (Nat.le_of_ble_eq_true rfl) ?_
  intro p e s m below meth c ls S0 hr hlocks hK hP hS hl
  obtain ⟨hx, hb, hml, hown, hts⟩ := id S0
  have hl : lv_has ls 4 [(0, .ref (ad 0)), (1, .int v), (2, .int w)] := hl
  have hkc := hI.kc
  have hvc := hI.vc
  have hgc := hI.gr
  have htc := hI.tc
  rcases ix_cases (n := sVc σ) v (by omega) with h0 | ⟨j, hj, rfl⟩
  · refine lv_aload_n hx hb dX4_link_0 rfl (lv_at hl 0 rfl) ?_
    refine va_get (D := D) (ci := 4) (v := .ref (ad 2)) (C := RX4) (T := TX4) (N := 7) hx hb hts in_X4 hown hK hP 0 rfl rfl 1 (by decide) (hts _ kf_X4_19) (fun _ h9 => h9) rfl dX4_link_1 ?_
    refine lv_iload_n hx hb dX4_link_4 rfl (lv_at hl 1 rfl) ?_
    refine cl_i (rest := []) (c_X3_has l D cA ad A hDD σ v ) ⟨hx, hb, hml, hown, hts⟩ hK hP hS kv_X4_75 ⟨Nat.le_of_ble_eq_true rfl, Nat.le_of_ble_eq_true rfl⟩ ⟨Nat.zero_le _, Nat.zero_le _⟩ 2 rfl rfl rfl hl.1 rfl (Nat.le_of_ble_eq_true rfl) (fun q h => h) dX4_link_5 (fun r u H locs hw hP hS _ => ?_)
    rw [hw.2] at hP
    refine tp_i (z := (hz (sVc σ) v)) hw.1 ?_
    refine tp_i (z := 0) (hz_0 h0) ?_
    refine lv_if_eq (tgt := 27) hx hb dX4_link_8 (by decide) (fun _ => ?_) (fun c9 => absurd (by decide) c9)
    refine lv_bipush (v := (-2)) hx hb dX4_link_27 (by decide) ?_
    exact rt_i (v := (-2)) (u := σ) hx hb hr hlocks hS hP (pr2 (link_b1 h0)) dX4_link_29
  · have h0 := ix_nI hj (n := sVc σ) (by omega)
    refine lv_aload_n hx hb dX4_link_0 rfl (lv_at hl 0 rfl) ?_
    refine va_get (D := D) (ci := 4) (v := .ref (ad 2)) (C := RX4) (T := TX4) (N := 7) hx hb hts in_X4 hown hK hP 0 rfl rfl 1 (by decide) (hts _ kf_X4_19) (fun _ h9 => h9) rfl dX4_link_1 ?_
    refine lv_iload_n hx hb dX4_link_4 rfl (lv_at hl 1 rfl) ?_
    refine cl_i (rest := []) (c_X3_has l D cA ad A hDD σ (nI j) ) ⟨hx, hb, hml, hown, hts⟩ hK hP hS kv_X4_75 ⟨Nat.le_of_ble_eq_true rfl, Nat.le_of_ble_eq_true rfl⟩ ⟨Nat.zero_le _, Nat.zero_le _⟩ 2 rfl rfl rfl hl.1 rfl (Nat.le_of_ble_eq_true rfl) (fun q h => h) dX4_link_5 (fun r u H locs hw hP hS _ => ?_)
    rw [hw.2] at hP
    refine tp_i (z := (hz (sVc σ) (nI j))) hw.1 ?_
    refine tp_i (z := 1) (hz_1 h0) ?_
    refine lv_if_eq (tgt := 27) hx hb dX4_link_8 (by decide) (fun c9 => absurd c9 (by decide)) (fun _ => ?_)
    refine lv_iload_n hx hb dX4_link_11 rfl (lv_at hl 2 rfl) ?_
    refine lv_iconst (v := (-1)) hx hb dX4_link_12 (by decide) ?_
    refine lv_icmp_eq (tgt := 30) hx hb dX4_link_13 (by decide) (fun c13 => ?_) (fun c13 => ?_)
    · refine lv_aload_n hx hb dX4_link_30 rfl (lv_at hl 0 rfl) ?_
      refine va_get (D := D) (ci := 4) (v := .ref (ad 2)) (C := RX4) (T := TX4) (N := 7) hx hb hts in_X4 hown hK hP 0 rfl rfl 1 (by decide) (hts _ kf_X4_19) (fun _ h9 => h9) rfl dX4_link_31 ?_
      refine va_get (D := D) (ci := 3) (v := .ref (ad 12)) (C := RX3) (T := TX3) (N := 6) hx hb hts in_X3 hown hK hP 2 rfl rfl 2 (by decide) (hts _ kf_X4_76) (fun _ h9 => h9) rfl dX4_link_34 ?_
      refine lv_iload_n hx hb dX4_link_37 rfl (lv_at hl 1 rfl) ?_
      refine ar_g hx hb hK hP 12 rfl (by omega) (by decide) dX4_link_38 ?_
      refine lv_istore_n (lv' := [(3, .int (sNx σ j)), (0, .ref (ad 0)), (1, .int (nI j)), (2, .int w)]) hx hb dX4_link_39 rfl hl (by decide) rfl (fun ls hl => ?_)
      refine lv_aload_n hx hb dX4_link_40 rfl (lv_at hl 1 rfl) ?_
      refine va_get (D := D) (ci := 4) (v := .ref (ad 2)) (C := RX4) (T := TX4) (N := 7) hx hb hts in_X4 hown hK hP 0 rfl rfl 1 (by decide) (hts _ kf_X4_19) (fun _ h9 => h9) rfl dX4_link_41 ?_
      refine va_get (D := D) (ci := 3) (v := .ref (ad 12)) (C := RX3) (T := TX3) (N := 6) hx hb hts in_X3 hown hK hP 2 rfl rfl 2 (by decide) (hts _ kf_X4_76) (fun _ h9 => h9) rfl dX4_link_44 ?_
      refine lv_iload_n hx hb dX4_link_47 rfl (lv_at hl 2 rfl) ?_
      refine lv_iload_n hx hb dX4_link_48 rfl (lv_at hl 3 rfl) ?_
      refine ar_p hx hb hK hP (hDD _) hS 12 rfl (x := w) (by omega) (by decide) dX4_link_49 (fun H locs hP hS => ?_)
      have hP : va_P D vwCl (cW ad cA (σ.1, ((sLim σ), (sSm σ), (upd (sNx σ) j w), (sLf σ), (sRt σ), (sVc σ)), σ.2.2.1, σ.2.2.2.1, σ.2.2.2.2)) H := hP
      refine lv_iload_n hx hb dX4_link_50 rfl (lv_at hl 0 rfl) ?_
      exact rt_i (v := (sNx σ j)) (u := (σ.1, ((sLim σ), (sSm σ), (upd (sNx σ) j w), (sLf σ), (sRt σ), (sVc σ)), σ.2.2.1, σ.2.2.2.1, σ.2.2.2.2)) hx hb hr hlocks hS hP (pr2 (link_ok h0 (Or.inl c13))) dX4_link_51
    · rcases ix_cases (n := sVc σ) w (by omega) with hq | ⟨i, hi, rfl⟩
      · refine lv_aload_n hx hb dX4_link_16 rfl (lv_at hl 0 rfl) ?_
        refine va_get (D := D) (ci := 4) (v := .ref (ad 2)) (C := RX4) (T := TX4) (N := 7) hx hb hts in_X4 hown hK hP 0 rfl rfl 1 (by decide) (hts _ kf_X4_19) (fun _ h9 => h9) rfl dX4_link_17 ?_
        refine lv_iload_n hx hb dX4_link_20 rfl (lv_at hl 2 rfl) ?_
        refine cl_i (rest := []) (c_X3_has l D cA ad A hDD σ w ) ⟨hx, hb, hml, hown, hts⟩ hK hP hS kv_X4_75 ⟨Nat.le_of_ble_eq_true rfl, Nat.le_of_ble_eq_true rfl⟩ ⟨Nat.zero_le _, Nat.zero_le _⟩ 2 rfl rfl rfl hl.1 rfl (Nat.le_of_ble_eq_true rfl) (fun q h => h) dX4_link_21 (fun r u H locs hw hP hS _ => ?_)
        rw [hw.2] at hP
        refine tp_i (z := (hz (sVc σ) w)) hw.1 ?_
        refine tp_i (z := 0) (hz_0 hq) ?_
        refine lv_if_ne (tgt := 30) hx hb dX4_link_24 (by decide) (fun c9 => absurd (by decide) c9) (fun _ => ?_)
        refine lv_bipush (v := (-2)) hx hb dX4_link_27 (by decide) ?_
        exact rt_i (v := (-2)) (u := σ) hx hb hr hlocks hS hP (pr2 (link_b2 h0 (fun q => q.elim c13 (ix_none_s hq)))) dX4_link_29
      · have hq := ix_nI hi (n := sVc σ) (by omega)
        refine lv_aload_n hx hb dX4_link_16 rfl (lv_at hl 0 rfl) ?_
        refine va_get (D := D) (ci := 4) (v := .ref (ad 2)) (C := RX4) (T := TX4) (N := 7) hx hb hts in_X4 hown hK hP 0 rfl rfl 1 (by decide) (hts _ kf_X4_19) (fun _ h9 => h9) rfl dX4_link_17 ?_
        refine lv_iload_n hx hb dX4_link_20 rfl (lv_at hl 2 rfl) ?_
        refine cl_i (rest := []) (c_X3_has l D cA ad A hDD σ (nI i) ) ⟨hx, hb, hml, hown, hts⟩ hK hP hS kv_X4_75 ⟨Nat.le_of_ble_eq_true rfl, Nat.le_of_ble_eq_true rfl⟩ ⟨Nat.zero_le _, Nat.zero_le _⟩ 2 rfl rfl rfl hl.1 rfl (Nat.le_of_ble_eq_true rfl) (fun q h => h) dX4_link_21 (fun r u H locs hw hP hS _ => ?_)
        rw [hw.2] at hP
        refine tp_i (z := (hz (sVc σ) (nI i))) hw.1 ?_
        refine tp_i (z := 1) (hz_1 hq) ?_
        refine lv_if_ne (tgt := 30) hx hb dX4_link_24 (by decide) (fun _ => ?_) (fun c9 => absurd c9 (by decide))
        refine lv_aload_n hx hb dX4_link_30 rfl (lv_at hl 0 rfl) ?_
        refine va_get (D := D) (ci := 4) (v := .ref (ad 2)) (C := RX4) (T := TX4) (N := 7) hx hb hts in_X4 hown hK hP 0 rfl rfl 1 (by decide) (hts _ kf_X4_19) (fun _ h9 => h9) rfl dX4_link_31 ?_
        refine va_get (D := D) (ci := 3) (v := .ref (ad 12)) (C := RX3) (T := TX3) (N := 6) hx hb hts in_X3 hown hK hP 2 rfl rfl 2 (by decide) (hts _ kf_X4_76) (fun _ h9 => h9) rfl dX4_link_34 ?_
        refine lv_iload_n hx hb dX4_link_37 rfl (lv_at hl 1 rfl) ?_
        refine ar_g hx hb hK hP 12 rfl (by omega) (by decide) dX4_link_38 ?_
        refine lv_istore_n (lv' := [(3, .int (sNx σ j)), (0, .ref (ad 0)), (1, .int (nI j)), (2, .int (nI i))]) hx hb dX4_link_39 rfl hl (by decide) rfl (fun ls hl => ?_)
        refine lv_aload_n hx hb dX4_link_40 rfl (lv_at hl 1 rfl) ?_
        refine va_get (D := D) (ci := 4) (v := .ref (ad 2)) (C := RX4) (T := TX4) (N := 7) hx hb hts in_X4 hown hK hP 0 rfl rfl 1 (by decide) (hts _ kf_X4_19) (fun _ h9 => h9) rfl dX4_link_41 ?_
        refine va_get (D := D) (ci := 3) (v := .ref (ad 12)) (C := RX3) (T := TX3) (N := 6) hx hb hts in_X3 hown hK hP 2 rfl rfl 2 (by decide) (hts _ kf_X4_76) (fun _ h9 => h9) rfl dX4_link_44 ?_
        refine lv_iload_n hx hb dX4_link_47 rfl (lv_at hl 2 rfl) ?_
        refine lv_iload_n hx hb dX4_link_48 rfl (lv_at hl 3 rfl) ?_
        refine ar_p hx hb hK hP (hDD _) hS 12 rfl (x := (nI i)) (by omega) (by decide) dX4_link_49 (fun H locs hP hS => ?_)
        have hP : va_P D vwCl (cW ad cA (σ.1, ((sLim σ), (sSm σ), (upd (sNx σ) j (nI i)), (sLf σ), (sRt σ), (sVc σ)), σ.2.2.1, σ.2.2.2.1, σ.2.2.2.2)) H := hP
        refine lv_iload_n hx hb dX4_link_50 rfl (lv_at hl 0 rfl) ?_
        exact rt_i (v := (sNx σ j)) (u := (σ.1, ((sLim σ), (sSm σ), (upd (sNx σ) j (nI i)), (sLf σ), (sRt σ), (sVc σ)), σ.2.2.1, σ.2.2.2.1, σ.2.2.2.2)) hx hb hr hlocks hS hP (pr2 (link_ok h0 (Or.inr (ix_some_s hq)))) dX4_link_51
set_option maxHeartbeats 4000000 in
set_option maxRecDepth 100000 in
theorem c_X4_put (l : Launch) (D : va_G) (cA : ClassId) (ad : Nat → Nat) (A : Nat → Prop) (hDD : ∀ u, va_D A (cW ad cA u)) (σ : CS) (v n : Int32) (hI : Inv σ) (hg : sGr σ = 0) (hb9 : sBc σ ≤ 1000000000) : Ct l D cA (cW ad cA) A yX4_put cX4_put 4 (some .int) 4 88 [.ref (ad 0), .int v, .int n] σ (fun r u => r = (f_put σ v n).1 ∧ u = (f_put σ v n).2) := by
  refine Ct.of (by decide) (Nat.le_of_ble_eq_true rfl) ?_
  intro p e s m below meth c ls S0 hr hlocks hK hP hS hl
  obtain ⟨hx, hb, hml, hown, hts⟩ := id S0
  have hl : lv_has ls 4 [(0, .ref (ad 0)), (1, .int v), (2, .int n)] := hl
  have hkc := hI.kc
  have hvc := hI.vc
  have hgc := hI.gr
  have htc := hI.tc
  rcases ix_cases (n := sVc σ) v (by omega) with h0 | ⟨j, hj, rfl⟩
  · refine lv_aload_n hx hb dX4_put_0 rfl (lv_at hl 0 rfl) ?_
    refine va_get (D := D) (ci := 4) (v := .ref (ad 2)) (C := RX4) (T := TX4) (N := 7) hx hb hts in_X4 hown hK hP 0 rfl rfl 1 (by decide) (hts _ kf_X4_19) (fun _ h9 => h9) rfl dX4_put_1 ?_
    refine lv_iload_n hx hb dX4_put_4 rfl (lv_at hl 1 rfl) ?_
    refine cl_i (rest := []) (c_X3_has l D cA ad A hDD σ v ) ⟨hx, hb, hml, hown, hts⟩ hK hP hS kv_X4_75 ⟨Nat.le_of_ble_eq_true rfl, Nat.le_of_ble_eq_true rfl⟩ ⟨Nat.zero_le _, Nat.zero_le _⟩ 2 rfl rfl rfl hl.1 rfl (Nat.le_of_ble_eq_true rfl) (fun q h => h) dX4_put_5 (fun r u H locs hw hP hS _ => ?_)
    rw [hw.2] at hP
    refine tp_i (z := (hz (sVc σ) v)) hw.1 ?_
    refine tp_i (z := 0) (hz_0 h0) ?_
    refine lv_if_eq (tgt := 18) hx hb dX4_put_8 (by decide) (fun _ => ?_) (fun c9 => absurd (by decide) c9)
    refine lv_bipush (v := (-2)) hx hb dX4_put_18 (by decide) ?_
    exact rt_i (v := (-2)) (u := σ) hx hb hr hlocks hS hP (pr2 (put_b1 h0)) dX4_put_20
  · have h0 := ix_nI hj (n := sVc σ) (by omega)
    refine lv_aload_n hx hb dX4_put_0 rfl (lv_at hl 0 rfl) ?_
    refine va_get (D := D) (ci := 4) (v := .ref (ad 2)) (C := RX4) (T := TX4) (N := 7) hx hb hts in_X4 hown hK hP 0 rfl rfl 1 (by decide) (hts _ kf_X4_19) (fun _ h9 => h9) rfl dX4_put_1 ?_
    refine lv_iload_n hx hb dX4_put_4 rfl (lv_at hl 1 rfl) ?_
    refine cl_i (rest := []) (c_X3_has l D cA ad A hDD σ (nI j) ) ⟨hx, hb, hml, hown, hts⟩ hK hP hS kv_X4_75 ⟨Nat.le_of_ble_eq_true rfl, Nat.le_of_ble_eq_true rfl⟩ ⟨Nat.zero_le _, Nat.zero_le _⟩ 2 rfl rfl rfl hl.1 rfl (Nat.le_of_ble_eq_true rfl) (fun q h => h) dX4_put_5 (fun r u H locs hw hP hS _ => ?_)
    rw [hw.2] at hP
    refine tp_i (z := (hz (sVc σ) (nI j))) hw.1 ?_
    refine tp_i (z := 1) (hz_1 h0) ?_
    refine lv_if_eq (tgt := 18) hx hb dX4_put_8 (by decide) (fun c9 => absurd c9 (by decide)) (fun _ => ?_)
    by_cases hn : amt n
    · skip
      refine lv_iload_n hx hb dX4_put_11 rfl (lv_at hl 2 rfl) ?_
      refine cl_s (rest := []) (c_X4_isAmount l D cA ad A hDD σ n ) ⟨hx, hb, hml, hown, hts⟩ hK hP hS kv_X4_79 ⟨Nat.le_of_ble_eq_true rfl, Nat.le_of_ble_eq_true rfl⟩ ⟨Nat.zero_le _, Nat.zero_le _⟩ rfl hl.1 rfl (Nat.le_of_ble_eq_true rfl) (fun q h => h) dX4_put_12 (fun r u H locs hw hP hS => ?_)
      rw [hw.2] at hP
      refine tp_i (z := (bz (amt n))) hw.1 ?_
      refine tp_i (z := 1) (bz_1 hn) ?_
      refine lv_if_ne (tgt := 21) hx hb dX4_put_15 (by decide) (fun _ => ?_) (fun c9 => absurd c9 (by decide))
      refine lv_aload_n hx hb dX4_put_21 rfl (lv_at hl 0 rfl) ?_
      refine lv_iload_n hx hb dX4_put_22 rfl (lv_at hl 1 rfl) ?_
      refine cl_i (rest := []) (c_X4_turnBoth l D cA ad A hDD σ j  hI hj (by omega) (by omega)) ⟨hx, hb, hml, hown, hts⟩ hK hP hS kv_X4_82 ⟨Nat.le_of_ble_eq_true rfl, Nat.le_of_ble_eq_true rfl⟩ ⟨Nat.zero_le _, Nat.zero_le _⟩ 0 rfl rfl rfl hl.1 rfl (Nat.le_of_ble_eq_true rfl) (fun q h => h) dX4_put_23 (fun r u H locs hw hP hS _ => ?_)
      rw [hw.2] at hP
      refine tp_i (z := (tb σ j).1) hw.1 ?_
      refine lv_istore_n (lv' := [(3, .int (tb σ j).1), (0, .ref (ad 0)), (1, .int (nI j)), (2, .int n)]) hx hb dX4_put_26 rfl hl (by decide) rfl (fun ls hl => ?_)
      refine lv_iload_n hx hb dX4_put_27 rfl (lv_at hl 0 rfl) ?_
      refine lv_if_eq (tgt := 33) hx hb dX4_put_28 (by decide) (fun c28 => ?_) (fun c28 => ?_)
      · have st1 := tb_st (v := j) hI hj (by omega)
        have b1 := st1.2.2.2.2
        have hj1 : j < sVc (tb σ j).2 := by rw [st1.2.1]; exact hj
        have hvc1 := st1.1.vc
        by_cases hc : sLim (tb σ j).2 j < sSm (tb σ j).2 j + n
        · skip
          refine lv_aload_n hx hb dX4_put_33 rfl (lv_at hl 1 rfl) ?_
          refine va_get (D := D) (ci := 4) (v := .ref (ad 2)) (C := RX4) (T := TX4) (N := 7) hx hb hts in_X4 hown hK hP 0 rfl rfl 1 (by decide) (hts _ kf_X4_19) (fun _ h9 => h9) rfl dX4_put_34 ?_
          refine lv_iload_n hx hb dX4_put_37 rfl (lv_at hl 2 rfl) ?_
          refine lv_iload_n hx hb dX4_put_38 rfl (lv_at hl 3 rfl) ?_
          refine cl_i (rest := []) (c_X3_isTooMuch l D cA ad A hDD (tb σ j).2 j n hj1 hvc1) ⟨hx, hb, hml, hown, hts⟩ hK hP hS kv_X4_85 ⟨Nat.le_of_ble_eq_true rfl, Nat.le_of_ble_eq_true rfl⟩ ⟨Nat.zero_le _, Nat.zero_le _⟩ 2 rfl rfl rfl hl.1 rfl (Nat.le_of_ble_eq_true rfl) (fun q h => h) dX4_put_39 (fun r u H locs hw hP hS _ => ?_)
          rw [hw.2] at hP
          refine tp_i (z := (bz (sLim (tb σ j).2 j < sSm (tb σ j).2 j + n))) hw.1 ?_
          refine tp_i (z := 1) (bz_1 hc) ?_
          refine lv_if_eq (tgt := 55) hx hb dX4_put_42 (by decide) (fun c9 => absurd c9 (by decide)) (fun _ => ?_)
          refine lv_aload_n hx hb dX4_put_45 rfl (lv_at hl 1 rfl) ?_
          refine lv_sipush (v := 300) hx hb dX4_put_46 (by decide) ?_
          refine lv_bipush (v := (-5)) hx hb dX4_put_49 (by decide) ?_
          refine cl_i (rest := []) (c_X4_letGo l D cA ad A hDD (tb σ j).2 300 (-5) st1.1 (by omega)) ⟨hx, hb, hml, hown, hts⟩ hK hP hS kv_X4_88 ⟨Nat.le_of_ble_eq_true rfl, Nat.le_of_ble_eq_true rfl⟩ ⟨Nat.zero_le _, Nat.zero_le _⟩ 0 rfl rfl rfl hl.1 rfl (Nat.le_of_ble_eq_true rfl) (fun q h => h) dX4_put_51 (fun r u H locs hw hP hS _ => ?_)
          rw [hw.2] at hP
          refine tp_i (z := (-5)) hw.1 ?_
          exact rt_i (v := (-5)) (u := (da 300 (tb σ j).2)) hx hb hr hlocks hS hP ((by rw [put_g h0 hn]; unfold g_put; rw [if_pos c28, if_pos hc]; exact ⟨rfl, rfl⟩)) dX4_put_54
        · skip
          refine lv_aload_n hx hb dX4_put_33 rfl (lv_at hl 1 rfl) ?_
          refine va_get (D := D) (ci := 4) (v := .ref (ad 2)) (C := RX4) (T := TX4) (N := 7) hx hb hts in_X4 hown hK hP 0 rfl rfl 1 (by decide) (hts _ kf_X4_19) (fun _ h9 => h9) rfl dX4_put_34 ?_
          refine lv_iload_n hx hb dX4_put_37 rfl (lv_at hl 2 rfl) ?_
          refine lv_iload_n hx hb dX4_put_38 rfl (lv_at hl 3 rfl) ?_
          refine cl_i (rest := []) (c_X3_isTooMuch l D cA ad A hDD (tb σ j).2 j n hj1 hvc1) ⟨hx, hb, hml, hown, hts⟩ hK hP hS kv_X4_85 ⟨Nat.le_of_ble_eq_true rfl, Nat.le_of_ble_eq_true rfl⟩ ⟨Nat.zero_le _, Nat.zero_le _⟩ 2 rfl rfl rfl hl.1 rfl (Nat.le_of_ble_eq_true rfl) (fun q h => h) dX4_put_39 (fun r u H locs hw hP hS _ => ?_)
          rw [hw.2] at hP
          refine tp_i (z := (bz (sLim (tb σ j).2 j < sSm (tb σ j).2 j + n))) hw.1 ?_
          refine tp_i (z := 0) (bz_0 hc) ?_
          refine lv_if_eq (tgt := 55) hx hb dX4_put_42 (by decide) (fun _ => ?_) (fun c9 => absurd (by decide) c9)
          refine lv_aload_n hx hb dX4_put_55 rfl (lv_at hl 1 rfl) ?_
          refine va_get (D := D) (ci := 4) (v := .ref (ad 2)) (C := RX4) (T := TX4) (N := 7) hx hb hts in_X4 hown hK hP 0 rfl rfl 1 (by decide) (hts _ kf_X4_19) (fun _ h9 => h9) rfl dX4_put_56 ?_
          refine va_get (D := D) (ci := 3) (v := .ref (ad 11)) (C := RX3) (T := TX3) (N := 6) hx hb hts in_X3 hown hK hP 2 rfl rfl 1 (by decide) (hts _ kf_X4_91) (fun _ h9 => h9) rfl dX4_put_59 ?_
          refine lv_iload_n hx hb dX4_put_62 rfl (lv_at hl 2 rfl) ?_
          refine lv_dup2_11 hx hb dX4_put_63 rfl rfl ?_
          refine ar_g hx hb hK hP 11 rfl (by omega) (by decide) dX4_put_64 ?_
          refine lv_iload_n hx hb dX4_put_65 rfl (lv_at hl 3 rfl) ?_
          refine lv_iadd hx hb dX4_put_66 ?_
          refine ar_p hx hb hK hP (hDD _) hS 11 rfl (x := ((sSm (tb σ j).2 j) + n)) (by omega) (by decide) dX4_put_67 (fun H locs hP hS => ?_)
          have hP : va_P D vwCl (cW ad cA ((tb σ j).2.1, ((sLim (tb σ j).2), (upd (sSm (tb σ j).2) j ((sSm (tb σ j).2 j) + n)), (sNx (tb σ j).2), (sLf (tb σ j).2), (sRt (tb σ j).2), (sVc (tb σ j).2)), (tb σ j).2.2.2.1, (tb σ j).2.2.2.2.1, (tb σ j).2.2.2.2.2)) H := hP
          refine lv_aload_n hx hb dX4_put_68 rfl (lv_at hl 1 rfl) ?_
          refine lv_sipush (v := 200) hx hb dX4_put_69 (by decide) ?_
          refine lv_aload_n hx hb dX4_put_72 rfl (lv_at hl 1 rfl) ?_
          refine va_get (D := D) (ci := 4) (v := .ref (ad 2)) (C := RX4) (T := TX4) (N := 7) hx hb hts in_X4 hown hK hP 0 rfl rfl 1 (by decide) (hts _ kf_X4_19) (fun _ h9 => h9) rfl dX4_put_73 ?_
          refine va_get (D := D) (ci := 3) (v := .ref (ad 11)) (C := RX3) (T := TX3) (N := 6) hx hb hts in_X3 hown hK hP 2 rfl rfl 1 (by decide) (hts _ kf_X4_91) (fun _ h9 => h9) rfl dX4_put_76 ?_
          refine lv_iload_n hx hb dX4_put_79 rfl (lv_at hl 2 rfl) ?_
          refine ar_g hx hb hK hP 11 rfl (by omega) (by decide) dX4_put_80 ?_
          refine tp_i (z := ((sSm (tb σ j).2 j) + n)) upd_eq ?_
          refine cl_i (rest := []) (c_X4_letGo l D cA ad A hDD ((tb σ j).2.1, ((sLim (tb σ j).2), (upd (sSm (tb σ j).2) j ((sSm (tb σ j).2 j) + n)), (sNx (tb σ j).2), (sLf (tb σ j).2), (sRt (tb σ j).2), (sVc (tb σ j).2)), (tb σ j).2.2.2.1, (tb σ j).2.2.2.2.1, (tb σ j).2.2.2.2.2) 200 ((sSm (tb σ j).2 j) + n) (put_inv st1.1 hj1 hn hc) (by show sBc (tb σ j).2 + sGr (tb σ j).2 < 2147483647; omega)) ⟨hx, hb, hml, hown, hts⟩ hK hP hS kv_X4_88 ⟨Nat.le_of_ble_eq_true rfl, Nat.le_of_ble_eq_true rfl⟩ ⟨Nat.zero_le _, Nat.zero_le _⟩ 0 rfl rfl rfl hl.1 rfl (Nat.le_of_ble_eq_true rfl) (fun q h => h) dX4_put_81 (fun r u H locs hw hP hS _ => ?_)
          rw [hw.2] at hP
          refine tp_i (z := ((sSm (tb σ j).2 j) + n)) hw.1 ?_
          exact rt_i (v := ((sSm (tb σ j).2 j) + n)) (u := (da 200 ((tb σ j).2.1, ((sLim (tb σ j).2), (upd (sSm (tb σ j).2) j ((sSm (tb σ j).2 j) + n)), (sNx (tb σ j).2), (sLf (tb σ j).2), (sRt (tb σ j).2), (sVc (tb σ j).2)), (tb σ j).2.2.2.1, (tb σ j).2.2.2.2.1, (tb σ j).2.2.2.2.2))) hx hb hr hlocks hS hP ((by rw [put_g h0 hn]; unfold g_put; rw [if_pos c28, if_neg hc]; exact ⟨rfl, rfl⟩)) dX4_put_84
      · refine lv_iload_n hx hb dX4_put_31 rfl (lv_at hl 0 rfl) ?_
        exact rt_i (v := (tb σ j).1) (u := (tb σ j).2) hx hb hr hlocks hS hP ((by rw [put_g h0 hn]; unfold g_put; rw [if_neg c28]; exact ⟨rfl, rfl⟩)) dX4_put_32
    · skip
      refine lv_iload_n hx hb dX4_put_11 rfl (lv_at hl 2 rfl) ?_
      refine cl_s (rest := []) (c_X4_isAmount l D cA ad A hDD σ n ) ⟨hx, hb, hml, hown, hts⟩ hK hP hS kv_X4_79 ⟨Nat.le_of_ble_eq_true rfl, Nat.le_of_ble_eq_true rfl⟩ ⟨Nat.zero_le _, Nat.zero_le _⟩ rfl hl.1 rfl (Nat.le_of_ble_eq_true rfl) (fun q h => h) dX4_put_12 (fun r u H locs hw hP hS => ?_)
      rw [hw.2] at hP
      refine tp_i (z := (bz (amt n))) hw.1 ?_
      refine tp_i (z := 0) (bz_0 hn) ?_
      refine lv_if_ne (tgt := 21) hx hb dX4_put_15 (by decide) (fun c9 => absurd (by decide) c9) (fun _ => ?_)
      refine lv_bipush (v := (-2)) hx hb dX4_put_18 (by decide) ?_
      exact rt_i (v := (-2)) (u := σ) hx hb hr hlocks hS hP (pr2 (put_b2 h0 hn)) dX4_put_20
set_option maxHeartbeats 4000000 in
set_option maxRecDepth 100000 in
theorem c_X4_take (l : Launch) (D : va_G) (cA : ClassId) (ad : Nat → Nat) (A : Nat → Prop) (hDD : ∀ u, va_D A (cW ad cA u)) (σ : CS) (v n : Int32) (hI : Inv σ) (hg : sGr σ = 0) (hb9 : sBc σ ≤ 1000000000) : Ct l D cA (cW ad cA) A yX4_take cX4_take 4 (some .int) 4 88 [.ref (ad 0), .int v, .int n] σ (fun r u => r = (f_take σ v n).1 ∧ u = (f_take σ v n).2) := by
  refine Ct.of (by decide) (Nat.le_of_ble_eq_true rfl) ?_
  intro p e s m below meth c ls S0 hr hlocks hK hP hS hl
  obtain ⟨hx, hb, hml, hown, hts⟩ := id S0
  have hl : lv_has ls 4 [(0, .ref (ad 0)), (1, .int v), (2, .int n)] := hl
  have hkc := hI.kc
  have hvc := hI.vc
  have hgc := hI.gr
  have htc := hI.tc
  rcases ix_cases (n := sVc σ) v (by omega) with h0 | ⟨j, hj, rfl⟩
  · refine lv_aload_n hx hb dX4_take_0 rfl (lv_at hl 0 rfl) ?_
    refine va_get (D := D) (ci := 4) (v := .ref (ad 2)) (C := RX4) (T := TX4) (N := 7) hx hb hts in_X4 hown hK hP 0 rfl rfl 1 (by decide) (hts _ kf_X4_19) (fun _ h9 => h9) rfl dX4_take_1 ?_
    refine lv_iload_n hx hb dX4_take_4 rfl (lv_at hl 1 rfl) ?_
    refine cl_i (rest := []) (c_X3_has l D cA ad A hDD σ v ) ⟨hx, hb, hml, hown, hts⟩ hK hP hS kv_X4_75 ⟨Nat.le_of_ble_eq_true rfl, Nat.le_of_ble_eq_true rfl⟩ ⟨Nat.zero_le _, Nat.zero_le _⟩ 2 rfl rfl rfl hl.1 rfl (Nat.le_of_ble_eq_true rfl) (fun q h => h) dX4_take_5 (fun r u H locs hw hP hS _ => ?_)
    rw [hw.2] at hP
    refine tp_i (z := (hz (sVc σ) v)) hw.1 ?_
    refine tp_i (z := 0) (hz_0 h0) ?_
    refine lv_if_eq (tgt := 18) hx hb dX4_take_8 (by decide) (fun _ => ?_) (fun c9 => absurd (by decide) c9)
    refine lv_bipush (v := (-2)) hx hb dX4_take_18 (by decide) ?_
    exact rt_i (v := (-2)) (u := σ) hx hb hr hlocks hS hP (pr2 (take_b1 h0)) dX4_take_20
  · have h0 := ix_nI hj (n := sVc σ) (by omega)
    refine lv_aload_n hx hb dX4_take_0 rfl (lv_at hl 0 rfl) ?_
    refine va_get (D := D) (ci := 4) (v := .ref (ad 2)) (C := RX4) (T := TX4) (N := 7) hx hb hts in_X4 hown hK hP 0 rfl rfl 1 (by decide) (hts _ kf_X4_19) (fun _ h9 => h9) rfl dX4_take_1 ?_
    refine lv_iload_n hx hb dX4_take_4 rfl (lv_at hl 1 rfl) ?_
    refine cl_i (rest := []) (c_X3_has l D cA ad A hDD σ (nI j) ) ⟨hx, hb, hml, hown, hts⟩ hK hP hS kv_X4_75 ⟨Nat.le_of_ble_eq_true rfl, Nat.le_of_ble_eq_true rfl⟩ ⟨Nat.zero_le _, Nat.zero_le _⟩ 2 rfl rfl rfl hl.1 rfl (Nat.le_of_ble_eq_true rfl) (fun q h => h) dX4_take_5 (fun r u H locs hw hP hS _ => ?_)
    rw [hw.2] at hP
    refine tp_i (z := (hz (sVc σ) (nI j))) hw.1 ?_
    refine tp_i (z := 1) (hz_1 h0) ?_
    refine lv_if_eq (tgt := 18) hx hb dX4_take_8 (by decide) (fun c9 => absurd c9 (by decide)) (fun _ => ?_)
    by_cases hn : amt n
    · skip
      refine lv_iload_n hx hb dX4_take_11 rfl (lv_at hl 2 rfl) ?_
      refine cl_s (rest := []) (c_X4_isAmount l D cA ad A hDD σ n ) ⟨hx, hb, hml, hown, hts⟩ hK hP hS kv_X4_79 ⟨Nat.le_of_ble_eq_true rfl, Nat.le_of_ble_eq_true rfl⟩ ⟨Nat.zero_le _, Nat.zero_le _⟩ rfl hl.1 rfl (Nat.le_of_ble_eq_true rfl) (fun q h => h) dX4_take_12 (fun r u H locs hw hP hS => ?_)
      rw [hw.2] at hP
      refine tp_i (z := (bz (amt n))) hw.1 ?_
      refine tp_i (z := 1) (bz_1 hn) ?_
      refine lv_if_ne (tgt := 21) hx hb dX4_take_15 (by decide) (fun _ => ?_) (fun c9 => absurd c9 (by decide))
      refine lv_aload_n hx hb dX4_take_21 rfl (lv_at hl 0 rfl) ?_
      refine lv_iload_n hx hb dX4_take_22 rfl (lv_at hl 1 rfl) ?_
      refine cl_i (rest := []) (c_X4_turnBoth l D cA ad A hDD σ j  hI hj (by omega) (by omega)) ⟨hx, hb, hml, hown, hts⟩ hK hP hS kv_X4_82 ⟨Nat.le_of_ble_eq_true rfl, Nat.le_of_ble_eq_true rfl⟩ ⟨Nat.zero_le _, Nat.zero_le _⟩ 0 rfl rfl rfl hl.1 rfl (Nat.le_of_ble_eq_true rfl) (fun q h => h) dX4_take_23 (fun r u H locs hw hP hS _ => ?_)
      rw [hw.2] at hP
      refine tp_i (z := (tb σ j).1) hw.1 ?_
      refine lv_istore_n (lv' := [(3, .int (tb σ j).1), (0, .ref (ad 0)), (1, .int (nI j)), (2, .int n)]) hx hb dX4_take_26 rfl hl (by decide) rfl (fun ls hl => ?_)
      refine lv_iload_n hx hb dX4_take_27 rfl (lv_at hl 0 rfl) ?_
      refine lv_if_eq (tgt := 33) hx hb dX4_take_28 (by decide) (fun c28 => ?_) (fun c28 => ?_)
      · have st1 := tb_st (v := j) hI hj (by omega)
        have b1 := st1.2.2.2.2
        have hj1 : j < sVc (tb σ j).2 := by rw [st1.2.1]; exact hj
        have hvc1 := st1.1.vc
        by_cases hc : sSm (tb σ j).2 j < n
        · skip
          refine lv_aload_n hx hb dX4_take_33 rfl (lv_at hl 1 rfl) ?_
          refine va_get (D := D) (ci := 4) (v := .ref (ad 2)) (C := RX4) (T := TX4) (N := 7) hx hb hts in_X4 hown hK hP 0 rfl rfl 1 (by decide) (hts _ kf_X4_19) (fun _ h9 => h9) rfl dX4_take_34 ?_
          refine va_get (D := D) (ci := 3) (v := .ref (ad 11)) (C := RX3) (T := TX3) (N := 6) hx hb hts in_X3 hown hK hP 2 rfl rfl 1 (by decide) (hts _ kf_X4_91) (fun _ h9 => h9) rfl dX4_take_37 ?_
          refine lv_iload_n hx hb dX4_take_40 rfl (lv_at hl 2 rfl) ?_
          refine ar_g hx hb hK hP 11 rfl (by omega) (by decide) dX4_take_41 ?_
          refine lv_iload_n hx hb dX4_take_42 rfl (lv_at hl 3 rfl) ?_
          refine lv_icmp_ge (tgt := 53) hx hb dX4_take_43 (by decide) (fun c9 => absurd c9 (i_nle.mpr hc)) (fun _ => ?_)
          refine lv_aload_n hx hb dX4_take_46 rfl (lv_at hl 1 rfl) ?_
          refine lv_bipush (v := (-6)) hx hb dX4_take_47 (by decide) ?_
          refine cl_i (rest := []) (c_X4_raiseAlarm l D cA ad A hDD (tb σ j).2 (-6) st1.1 (by omega)) ⟨hx, hb, hml, hown, hts⟩ hK hP hS kv_X4_94 ⟨Nat.le_of_ble_eq_true rfl, Nat.le_of_ble_eq_true rfl⟩ ⟨Nat.zero_le _, Nat.zero_le _⟩ 0 rfl rfl rfl hl.1 rfl (Nat.le_of_ble_eq_true rfl) (fun q h => h) dX4_take_49 (fun r u H locs hw hP hS _ => ?_)
          rw [hw.2] at hP
          refine tp_i (z := (-6)) hw.1 ?_
          exact rt_i (v := (-6)) (u := (ra (tb σ j).2)) hx hb hr hlocks hS hP ((by rw [take_g h0 hn]; unfold g_take; rw [if_pos c28, if_pos hc]; exact ⟨rfl, rfl⟩)) dX4_take_52
        · skip
          refine lv_aload_n hx hb dX4_take_33 rfl (lv_at hl 1 rfl) ?_
          refine va_get (D := D) (ci := 4) (v := .ref (ad 2)) (C := RX4) (T := TX4) (N := 7) hx hb hts in_X4 hown hK hP 0 rfl rfl 1 (by decide) (hts _ kf_X4_19) (fun _ h9 => h9) rfl dX4_take_34 ?_
          refine va_get (D := D) (ci := 3) (v := .ref (ad 11)) (C := RX3) (T := TX3) (N := 6) hx hb hts in_X3 hown hK hP 2 rfl rfl 1 (by decide) (hts _ kf_X4_91) (fun _ h9 => h9) rfl dX4_take_37 ?_
          refine lv_iload_n hx hb dX4_take_40 rfl (lv_at hl 2 rfl) ?_
          refine ar_g hx hb hK hP 11 rfl (by omega) (by decide) dX4_take_41 ?_
          refine lv_iload_n hx hb dX4_take_42 rfl (lv_at hl 3 rfl) ?_
          refine lv_icmp_ge (tgt := 53) hx hb dX4_take_43 (by decide) (fun _ => ?_) (fun c9 => absurd (i_nlt.mp hc) c9)
          refine lv_aload_n hx hb dX4_take_53 rfl (lv_at hl 1 rfl) ?_
          refine va_get (D := D) (ci := 4) (v := .ref (ad 2)) (C := RX4) (T := TX4) (N := 7) hx hb hts in_X4 hown hK hP 0 rfl rfl 1 (by decide) (hts _ kf_X4_19) (fun _ h9 => h9) rfl dX4_take_54 ?_
          refine va_get (D := D) (ci := 3) (v := .ref (ad 11)) (C := RX3) (T := TX3) (N := 6) hx hb hts in_X3 hown hK hP 2 rfl rfl 1 (by decide) (hts _ kf_X4_91) (fun _ h9 => h9) rfl dX4_take_57 ?_
          refine lv_iload_n hx hb dX4_take_60 rfl (lv_at hl 2 rfl) ?_
          refine lv_dup2_11 hx hb dX4_take_61 rfl rfl ?_
          refine ar_g hx hb hK hP 11 rfl (by omega) (by decide) dX4_take_62 ?_
          refine lv_iload_n hx hb dX4_take_63 rfl (lv_at hl 3 rfl) ?_
          refine lv_isub hx hb dX4_take_64 ?_
          refine ar_p hx hb hK hP (hDD _) hS 11 rfl (x := ((sSm (tb σ j).2 j) - n)) (by omega) (by decide) dX4_take_65 (fun H locs hP hS => ?_)
          have hP : va_P D vwCl (cW ad cA ((tb σ j).2.1, ((sLim (tb σ j).2), (upd (sSm (tb σ j).2) j ((sSm (tb σ j).2 j) - n)), (sNx (tb σ j).2), (sLf (tb σ j).2), (sRt (tb σ j).2), (sVc (tb σ j).2)), (tb σ j).2.2.2.1, (tb σ j).2.2.2.2.1, (tb σ j).2.2.2.2.2)) H := hP
          refine lv_aload_n hx hb dX4_take_66 rfl (lv_at hl 1 rfl) ?_
          refine lv_sipush (v := 200) hx hb dX4_take_67 (by decide) ?_
          refine lv_aload_n hx hb dX4_take_70 rfl (lv_at hl 1 rfl) ?_
          refine va_get (D := D) (ci := 4) (v := .ref (ad 2)) (C := RX4) (T := TX4) (N := 7) hx hb hts in_X4 hown hK hP 0 rfl rfl 1 (by decide) (hts _ kf_X4_19) (fun _ h9 => h9) rfl dX4_take_71 ?_
          refine va_get (D := D) (ci := 3) (v := .ref (ad 11)) (C := RX3) (T := TX3) (N := 6) hx hb hts in_X3 hown hK hP 2 rfl rfl 1 (by decide) (hts _ kf_X4_91) (fun _ h9 => h9) rfl dX4_take_74 ?_
          refine lv_iload_n hx hb dX4_take_77 rfl (lv_at hl 2 rfl) ?_
          refine ar_g hx hb hK hP 11 rfl (by omega) (by decide) dX4_take_78 ?_
          refine tp_i (z := ((sSm (tb σ j).2 j) - n)) upd_eq ?_
          refine cl_i (rest := []) (c_X4_letGo l D cA ad A hDD ((tb σ j).2.1, ((sLim (tb σ j).2), (upd (sSm (tb σ j).2) j ((sSm (tb σ j).2 j) - n)), (sNx (tb σ j).2), (sLf (tb σ j).2), (sRt (tb σ j).2), (sVc (tb σ j).2)), (tb σ j).2.2.2.1, (tb σ j).2.2.2.2.1, (tb σ j).2.2.2.2.2) 200 ((sSm (tb σ j).2 j) - n) (take_inv st1.1 hj1 hn hc) (by show sBc (tb σ j).2 + sGr (tb σ j).2 < 2147483647; omega)) ⟨hx, hb, hml, hown, hts⟩ hK hP hS kv_X4_88 ⟨Nat.le_of_ble_eq_true rfl, Nat.le_of_ble_eq_true rfl⟩ ⟨Nat.zero_le _, Nat.zero_le _⟩ 0 rfl rfl rfl hl.1 rfl (Nat.le_of_ble_eq_true rfl) (fun q h => h) dX4_take_79 (fun r u H locs hw hP hS _ => ?_)
          rw [hw.2] at hP
          refine tp_i (z := ((sSm (tb σ j).2 j) - n)) hw.1 ?_
          exact rt_i (v := ((sSm (tb σ j).2 j) - n)) (u := (da 200 ((tb σ j).2.1, ((sLim (tb σ j).2), (upd (sSm (tb σ j).2) j ((sSm (tb σ j).2 j) - n)), (sNx (tb σ j).2), (sLf (tb σ j).2), (sRt (tb σ j).2), (sVc (tb σ j).2)), (tb σ j).2.2.2.1, (tb σ j).2.2.2.2.1, (tb σ j).2.2.2.2.2))) hx hb hr hlocks hS hP ((by rw [take_g h0 hn]; unfold g_take; rw [if_pos c28, if_neg hc]; exact ⟨rfl, rfl⟩)) dX4_take_82
      · refine lv_iload_n hx hb dX4_take_31 rfl (lv_at hl 0 rfl) ?_
        exact rt_i (v := (tb σ j).1) (u := (tb σ j).2) hx hb hr hlocks hS hP ((by rw [take_g h0 hn]; unfold g_take; rw [if_neg c28]; exact ⟨rfl, rfl⟩)) dX4_take_32
    · skip
      refine lv_iload_n hx hb dX4_take_11 rfl (lv_at hl 2 rfl) ?_
      refine cl_s (rest := []) (c_X4_isAmount l D cA ad A hDD σ n ) ⟨hx, hb, hml, hown, hts⟩ hK hP hS kv_X4_79 ⟨Nat.le_of_ble_eq_true rfl, Nat.le_of_ble_eq_true rfl⟩ ⟨Nat.zero_le _, Nat.zero_le _⟩ rfl hl.1 rfl (Nat.le_of_ble_eq_true rfl) (fun q h => h) dX4_take_12 (fun r u H locs hw hP hS => ?_)
      rw [hw.2] at hP
      refine tp_i (z := (bz (amt n))) hw.1 ?_
      refine tp_i (z := 0) (bz_0 hn) ?_
      refine lv_if_ne (tgt := 21) hx hb dX4_take_15 (by decide) (fun c9 => absurd (by decide) c9) (fun _ => ?_)
      refine lv_bipush (v := (-2)) hx hb dX4_take_18 (by decide) ?_
      exact rt_i (v := (-2)) (u := σ) hx hb hr hlocks hS hP (pr2 (take_b2 h0 hn)) dX4_take_20
set_option maxHeartbeats 4000000 in
set_option maxRecDepth 100000 in
theorem c_X4_split (l : Launch) (D : va_G) (cA : ClassId) (ad : Nat → Nat) (A : Nat → Prop) (hDD : ∀ u, va_D A (cW ad cA u)) (σ : CS) (v n : Int32) (hI : Inv σ) (hg : sGr σ = 0) (hb9 : sBc σ ≤ 1000000000) : Ct l D cA (cW ad cA) A yX4_split cX4_split 4 (some .int) 4 88 [.ref (ad 0), .int v, .int n] σ (fun r u => r = (f_split σ v n).1 ∧ u = (f_split σ v n).2) := by
  refine Ct.of (by decide) (Nat.le_of_ble_eq_true rfl) ?_
  intro p e s m below meth c ls S0 hr hlocks hK hP hS hl
  obtain ⟨hx, hb, hml, hown, hts⟩ := id S0
  have hl : lv_has ls 4 [(0, .ref (ad 0)), (1, .int v), (2, .int n)] := hl
  have hkc := hI.kc
  have hvc := hI.vc
  have hgc := hI.gr
  have htc := hI.tc
  rcases ix_cases (n := sVc σ) v (by omega) with h0 | ⟨j, hj, rfl⟩
  · refine lv_aload_n hx hb dX4_split_0 rfl (lv_at hl 0 rfl) ?_
    refine va_get (D := D) (ci := 4) (v := .ref (ad 2)) (C := RX4) (T := TX4) (N := 7) hx hb hts in_X4 hown hK hP 0 rfl rfl 1 (by decide) (hts _ kf_X4_19) (fun _ h9 => h9) rfl dX4_split_1 ?_
    refine lv_iload_n hx hb dX4_split_4 rfl (lv_at hl 1 rfl) ?_
    refine cl_i (rest := []) (c_X3_has l D cA ad A hDD σ v ) ⟨hx, hb, hml, hown, hts⟩ hK hP hS kv_X4_75 ⟨Nat.le_of_ble_eq_true rfl, Nat.le_of_ble_eq_true rfl⟩ ⟨Nat.zero_le _, Nat.zero_le _⟩ 2 rfl rfl rfl hl.1 rfl (Nat.le_of_ble_eq_true rfl) (fun q h => h) dX4_split_5 (fun r u H locs hw hP hS _ => ?_)
    rw [hw.2] at hP
    refine tp_i (z := (hz (sVc σ) v)) hw.1 ?_
    refine tp_i (z := 0) (hz_0 h0) ?_
    refine lv_if_eq (tgt := 22) hx hb dX4_split_8 (by decide) (fun _ => ?_) (fun c9 => absurd (by decide) c9)
    refine lv_bipush (v := (-2)) hx hb dX4_split_22 (by decide) ?_
    exact rt_i (v := (-2)) (u := σ) hx hb hr hlocks hS hP (pr2 (split_b1 h0)) dX4_split_24
  · have h0 := ix_nI hj (n := sVc σ) (by omega)
    refine lv_aload_n hx hb dX4_split_0 rfl (lv_at hl 0 rfl) ?_
    refine va_get (D := D) (ci := 4) (v := .ref (ad 2)) (C := RX4) (T := TX4) (N := 7) hx hb hts in_X4 hown hK hP 0 rfl rfl 1 (by decide) (hts _ kf_X4_19) (fun _ h9 => h9) rfl dX4_split_1 ?_
    refine lv_iload_n hx hb dX4_split_4 rfl (lv_at hl 1 rfl) ?_
    refine cl_i (rest := []) (c_X3_has l D cA ad A hDD σ (nI j) ) ⟨hx, hb, hml, hown, hts⟩ hK hP hS kv_X4_75 ⟨Nat.le_of_ble_eq_true rfl, Nat.le_of_ble_eq_true rfl⟩ ⟨Nat.zero_le _, Nat.zero_le _⟩ 2 rfl rfl rfl hl.1 rfl (Nat.le_of_ble_eq_true rfl) (fun q h => h) dX4_split_5 (fun r u H locs hw hP hS _ => ?_)
    rw [hw.2] at hP
    refine tp_i (z := (hz (sVc σ) (nI j))) hw.1 ?_
    refine tp_i (z := 1) (hz_1 h0) ?_
    refine lv_if_eq (tgt := 22) hx hb dX4_split_8 (by decide) (fun c9 => absurd c9 (by decide)) (fun _ => ?_)
    by_cases hn : 0 ≤ n ∧ n ≤ 1000
    · skip
      refine lv_iload_n hx hb dX4_split_11 rfl (lv_at hl 2 rfl) ?_
      refine lv_iconst (v := 0) hx hb dX4_split_12 (by decide) ?_
      refine lv_sipush (v := 1000) hx hb dX4_split_13 (by decide) ?_
      refine cl_s (rest := []) (c_X4_isWithin l D cA ad A hDD σ n 0 1000 ) ⟨hx, hb, hml, hown, hts⟩ hK hP hS kv_X4_48 ⟨Nat.le_of_ble_eq_true rfl, Nat.le_of_ble_eq_true rfl⟩ ⟨Nat.zero_le _, Nat.zero_le _⟩ rfl hl.1 rfl (Nat.le_of_ble_eq_true rfl) (fun q h => h) dX4_split_16 (fun r u H locs hw hP hS => ?_)
      rw [hw.2] at hP
      refine tp_i (z := (bz (0 ≤ n ∧ n ≤ 1000))) hw.1 ?_
      refine tp_i (z := 1) (bz_1 hn) ?_
      refine lv_if_ne (tgt := 25) hx hb dX4_split_19 (by decide) (fun _ => ?_) (fun c9 => absurd c9 (by decide))
      refine lv_aload_n hx hb dX4_split_25 rfl (lv_at hl 0 rfl) ?_
      refine lv_iload_n hx hb dX4_split_26 rfl (lv_at hl 1 rfl) ?_
      refine cl_i (rest := []) (c_X4_turnBoth l D cA ad A hDD σ j  hI hj (by omega) (by omega)) ⟨hx, hb, hml, hown, hts⟩ hK hP hS kv_X4_82 ⟨Nat.le_of_ble_eq_true rfl, Nat.le_of_ble_eq_true rfl⟩ ⟨Nat.zero_le _, Nat.zero_le _⟩ 0 rfl rfl rfl hl.1 rfl (Nat.le_of_ble_eq_true rfl) (fun q h => h) dX4_split_27 (fun r u H locs hw hP hS _ => ?_)
      rw [hw.2] at hP
      refine tp_i (z := (tb σ j).1) hw.1 ?_
      refine lv_istore_n (lv' := [(3, .int (tb σ j).1), (0, .ref (ad 0)), (1, .int (nI j)), (2, .int n)]) hx hb dX4_split_30 rfl hl (by decide) rfl (fun ls hl => ?_)
      refine lv_iload_n hx hb dX4_split_31 rfl (lv_at hl 0 rfl) ?_
      refine lv_if_eq (tgt := 37) hx hb dX4_split_32 (by decide) (fun c32 => ?_) (fun c32 => ?_)
      · have st1 := tb_st (v := j) hI hj (by omega)
        have b1 := st1.2.2.2.2
        have hj1 : j < sVc (tb σ j).2 := by rw [st1.2.1]; exact hj
        have hvc1 := st1.1.vc
        refine lv_iload_n hx hb dX4_split_37 rfl (lv_at hl 3 rfl) ?_
        refine lv_if_ne (tgt := 48) hx hb dX4_split_38 (by decide) (fun c38 => ?_) (fun c38 => ?_)
        · refine lv_aload_n hx hb dX4_split_48 rfl (lv_at hl 1 rfl) ?_
          refine lv_sipush (v := 200) hx hb dX4_split_49 (by decide) ?_
          refine lv_aload_n hx hb dX4_split_52 rfl (lv_at hl 1 rfl) ?_
          refine va_get (D := D) (ci := 4) (v := .ref (ad 2)) (C := RX4) (T := TX4) (N := 7) hx hb hts in_X4 hown hK hP 0 rfl rfl 1 (by decide) (hts _ kf_X4_19) (fun _ h9 => h9) rfl dX4_split_53 ?_
          refine va_get (D := D) (ci := 3) (v := .ref (ad 11)) (C := RX3) (T := TX3) (N := 6) hx hb hts in_X3 hown hK hP 2 rfl rfl 1 (by decide) (hts _ kf_X4_91) (fun _ h9 => h9) rfl dX4_split_56 ?_
          refine lv_iload_n hx hb dX4_split_59 rfl (lv_at hl 2 rfl) ?_
          refine ar_g hx hb hK hP 11 rfl (by omega) (by decide) dX4_split_60 ?_
          refine lv_iload_n hx hb dX4_split_61 rfl (lv_at hl 3 rfl) ?_
          refine lv_idiv hx hb dX4_split_62 c38 ?_
          refine cl_i (rest := []) (c_X4_letGo l D cA ad A hDD (tb σ j).2 200 ((sSm (tb σ j).2 j) / n) st1.1 (by omega)) ⟨hx, hb, hml, hown, hts⟩ hK hP hS kv_X4_88 ⟨Nat.le_of_ble_eq_true rfl, Nat.le_of_ble_eq_true rfl⟩ ⟨Nat.zero_le _, Nat.zero_le _⟩ 0 rfl rfl rfl hl.1 rfl (Nat.le_of_ble_eq_true rfl) (fun q h => h) dX4_split_63 (fun r u H locs hw hP hS _ => ?_)
          rw [hw.2] at hP
          refine tp_i (z := ((sSm (tb σ j).2 j) / n)) hw.1 ?_
          exact rt_i (v := ((sSm (tb σ j).2 j) / n)) (u := (da 200 (tb σ j).2)) hx hb hr hlocks hS hP ((by rw [split_g h0 hn]; unfold g_split; rw [if_pos c32, if_neg c38]; exact ⟨rfl, rfl⟩)) dX4_split_66
        · refine lv_aload_n hx hb dX4_split_41 rfl (lv_at hl 1 rfl) ?_
          refine lv_bipush (v := (-8)) hx hb dX4_split_42 (by decide) ?_
          refine cl_i (rest := []) (c_X4_raiseAlarm l D cA ad A hDD (tb σ j).2 (-8) st1.1 (by omega)) ⟨hx, hb, hml, hown, hts⟩ hK hP hS kv_X4_94 ⟨Nat.le_of_ble_eq_true rfl, Nat.le_of_ble_eq_true rfl⟩ ⟨Nat.zero_le _, Nat.zero_le _⟩ 0 rfl rfl rfl hl.1 rfl (Nat.le_of_ble_eq_true rfl) (fun q h => h) dX4_split_44 (fun r u H locs hw hP hS _ => ?_)
          rw [hw.2] at hP
          refine tp_i (z := (-8)) hw.1 ?_
          exact rt_i (v := (-8)) (u := (ra (tb σ j).2)) hx hb hr hlocks hS hP ((by rw [split_g h0 hn]; unfold g_split; rw [if_pos c32, if_pos c38]; exact ⟨rfl, rfl⟩)) dX4_split_47
      · refine lv_iload_n hx hb dX4_split_35 rfl (lv_at hl 0 rfl) ?_
        exact rt_i (v := (tb σ j).1) (u := (tb σ j).2) hx hb hr hlocks hS hP ((by rw [split_g h0 hn]; unfold g_split; rw [if_neg c32]; exact ⟨rfl, rfl⟩)) dX4_split_36
    · skip
      refine lv_iload_n hx hb dX4_split_11 rfl (lv_at hl 2 rfl) ?_
      refine lv_iconst (v := 0) hx hb dX4_split_12 (by decide) ?_
      refine lv_sipush (v := 1000) hx hb dX4_split_13 (by decide) ?_
      refine cl_s (rest := []) (c_X4_isWithin l D cA ad A hDD σ n 0 1000 ) ⟨hx, hb, hml, hown, hts⟩ hK hP hS kv_X4_48 ⟨Nat.le_of_ble_eq_true rfl, Nat.le_of_ble_eq_true rfl⟩ ⟨Nat.zero_le _, Nat.zero_le _⟩ rfl hl.1 rfl (Nat.le_of_ble_eq_true rfl) (fun q h => h) dX4_split_16 (fun r u H locs hw hP hS => ?_)
      rw [hw.2] at hP
      refine tp_i (z := (bz (0 ≤ n ∧ n ≤ 1000))) hw.1 ?_
      refine tp_i (z := 0) (bz_0 hn) ?_
      refine lv_if_ne (tgt := 25) hx hb dX4_split_19 (by decide) (fun c9 => absurd (by decide) c9) (fun _ => ?_)
      refine lv_bipush (v := (-2)) hx hb dX4_split_22 (by decide) ?_
      exact rt_i (v := (-2)) (u := σ) hx hb hr hlocks hS hP (pr2 (split_b2 h0 hn)) dX4_split_24
set_option maxHeartbeats 4000000 in
set_option maxRecDepth 100000 in
theorem c_X4_move (l : Launch) (D : va_G) (cA : ClassId) (ad : Nat → Nat) (A : Nat → Prop) (hDD : ∀ u, va_D A (cW ad cA u)) (σ : CS) (a b n : Int32) (hI : Inv σ) (hg : sGr σ = 0) (hb9 : sBc σ ≤ 1000000000) : Ct l D cA (cW ad cA) A yX4_move cX4_move 5 (some .int) 4 88 [.ref (ad 0), .int a, .int b, .int n] σ (fun r u => r = (f_move σ a b n).1 ∧ u = (f_move σ a b n).2) := by
  refine Ct.of (by decide) (Nat.le_of_ble_eq_true rfl) ?_
  intro p e s m below meth c ls S0 hr hlocks hK hP hS hl
  obtain ⟨hx, hb, hml, hown, hts⟩ := id S0
  have hl : lv_has ls 5 [(0, .ref (ad 0)), (1, .int a), (2, .int b), (3, .int n)] := hl
  have hkc := hI.kc
  have hvc := hI.vc
  have hgc := hI.gr
  have htc := hI.tc
  rcases ix_cases (n := sVc σ) a (by omega) with h0 | ⟨i, hi, rfl⟩
  · refine lv_aload_n hx hb dX4_move_0 rfl (lv_at hl 0 rfl) ?_
    refine va_get (D := D) (ci := 4) (v := .ref (ad 2)) (C := RX4) (T := TX4) (N := 7) hx hb hts in_X4 hown hK hP 0 rfl rfl 1 (by decide) (hts _ kf_X4_19) (fun _ h9 => h9) rfl dX4_move_1 ?_
    refine lv_iload_n hx hb dX4_move_4 rfl (lv_at hl 1 rfl) ?_
    refine cl_i (rest := []) (c_X3_has l D cA ad A hDD σ a ) ⟨hx, hb, hml, hown, hts⟩ hK hP hS kv_X4_75 ⟨Nat.le_of_ble_eq_true rfl, Nat.le_of_ble_eq_true rfl⟩ ⟨Nat.zero_le _, Nat.zero_le _⟩ 2 rfl rfl rfl hl.1 rfl (Nat.le_of_ble_eq_true rfl) (fun q h => h) dX4_move_5 (fun r u H locs hw hP hS _ => ?_)
    rw [hw.2] at hP
    refine tp_i (z := (hz (sVc σ) a)) hw.1 ?_
    refine tp_i (z := 0) (hz_0 h0) ?_
    refine lv_if_eq (tgt := 29) hx hb dX4_move_8 (by decide) (fun _ => ?_) (fun c9 => absurd (by decide) c9)
    refine lv_bipush (v := (-2)) hx hb dX4_move_29 (by decide) ?_
    exact rt_i (v := (-2)) (u := σ) hx hb hr hlocks hS hP (pr2 (move_b1 h0)) dX4_move_31
  · have h0 := ix_nI hi (n := sVc σ) (by omega)
    refine lv_aload_n hx hb dX4_move_0 rfl (lv_at hl 0 rfl) ?_
    refine va_get (D := D) (ci := 4) (v := .ref (ad 2)) (C := RX4) (T := TX4) (N := 7) hx hb hts in_X4 hown hK hP 0 rfl rfl 1 (by decide) (hts _ kf_X4_19) (fun _ h9 => h9) rfl dX4_move_1 ?_
    refine lv_iload_n hx hb dX4_move_4 rfl (lv_at hl 1 rfl) ?_
    refine cl_i (rest := []) (c_X3_has l D cA ad A hDD σ (nI i) ) ⟨hx, hb, hml, hown, hts⟩ hK hP hS kv_X4_75 ⟨Nat.le_of_ble_eq_true rfl, Nat.le_of_ble_eq_true rfl⟩ ⟨Nat.zero_le _, Nat.zero_le _⟩ 2 rfl rfl rfl hl.1 rfl (Nat.le_of_ble_eq_true rfl) (fun q h => h) dX4_move_5 (fun r u H locs hw hP hS _ => ?_)
    rw [hw.2] at hP
    refine tp_i (z := (hz (sVc σ) (nI i))) hw.1 ?_
    refine tp_i (z := 1) (hz_1 h0) ?_
    refine lv_if_eq (tgt := 29) hx hb dX4_move_8 (by decide) (fun c9 => absurd c9 (by decide)) (fun _ => ?_)
    rcases ix_cases (n := sVc σ) b (by omega) with h1 | ⟨j, hj, rfl⟩
    · refine lv_aload_n hx hb dX4_move_11 rfl (lv_at hl 0 rfl) ?_
      refine va_get (D := D) (ci := 4) (v := .ref (ad 2)) (C := RX4) (T := TX4) (N := 7) hx hb hts in_X4 hown hK hP 0 rfl rfl 1 (by decide) (hts _ kf_X4_19) (fun _ h9 => h9) rfl dX4_move_12 ?_
      refine lv_iload_n hx hb dX4_move_15 rfl (lv_at hl 2 rfl) ?_
      refine cl_i (rest := []) (c_X3_has l D cA ad A hDD σ b ) ⟨hx, hb, hml, hown, hts⟩ hK hP hS kv_X4_75 ⟨Nat.le_of_ble_eq_true rfl, Nat.le_of_ble_eq_true rfl⟩ ⟨Nat.zero_le _, Nat.zero_le _⟩ 2 rfl rfl rfl hl.1 rfl (Nat.le_of_ble_eq_true rfl) (fun q h => h) dX4_move_16 (fun r u H locs hw hP hS _ => ?_)
      rw [hw.2] at hP
      refine tp_i (z := (hz (sVc σ) b)) hw.1 ?_
      refine tp_i (z := 0) (hz_0 h1) ?_
      refine lv_if_eq (tgt := 29) hx hb dX4_move_19 (by decide) (fun _ => ?_) (fun c9 => absurd (by decide) c9)
      refine lv_bipush (v := (-2)) hx hb dX4_move_29 (by decide) ?_
      exact rt_i (v := (-2)) (u := σ) hx hb hr hlocks hS hP (pr2 (move_b2 h0 h1)) dX4_move_31
    · have h1 := ix_nI hj (n := sVc σ) (by omega)
      refine lv_aload_n hx hb dX4_move_11 rfl (lv_at hl 0 rfl) ?_
      refine va_get (D := D) (ci := 4) (v := .ref (ad 2)) (C := RX4) (T := TX4) (N := 7) hx hb hts in_X4 hown hK hP 0 rfl rfl 1 (by decide) (hts _ kf_X4_19) (fun _ h9 => h9) rfl dX4_move_12 ?_
      refine lv_iload_n hx hb dX4_move_15 rfl (lv_at hl 2 rfl) ?_
      refine cl_i (rest := []) (c_X3_has l D cA ad A hDD σ (nI j) ) ⟨hx, hb, hml, hown, hts⟩ hK hP hS kv_X4_75 ⟨Nat.le_of_ble_eq_true rfl, Nat.le_of_ble_eq_true rfl⟩ ⟨Nat.zero_le _, Nat.zero_le _⟩ 2 rfl rfl rfl hl.1 rfl (Nat.le_of_ble_eq_true rfl) (fun q h => h) dX4_move_16 (fun r u H locs hw hP hS _ => ?_)
      rw [hw.2] at hP
      refine tp_i (z := (hz (sVc σ) (nI j))) hw.1 ?_
      refine tp_i (z := 1) (hz_1 h1) ?_
      refine lv_if_eq (tgt := 29) hx hb dX4_move_19 (by decide) (fun c9 => absurd c9 (by decide)) (fun _ => ?_)
      by_cases hn : amt n
      · skip
        refine lv_iload_n hx hb dX4_move_22 rfl (lv_at hl 3 rfl) ?_
        refine cl_s (rest := []) (c_X4_isAmount l D cA ad A hDD σ n ) ⟨hx, hb, hml, hown, hts⟩ hK hP hS kv_X4_79 ⟨Nat.le_of_ble_eq_true rfl, Nat.le_of_ble_eq_true rfl⟩ ⟨Nat.zero_le _, Nat.zero_le _⟩ rfl hl.1 rfl (Nat.le_of_ble_eq_true rfl) (fun q h => h) dX4_move_23 (fun r u H locs hw hP hS => ?_)
        rw [hw.2] at hP
        refine tp_i (z := (bz (amt n))) hw.1 ?_
        refine tp_i (z := 1) (bz_1 hn) ?_
        refine lv_if_ne (tgt := 32) hx hb dX4_move_26 (by decide) (fun _ => ?_) (fun c9 => absurd c9 (by decide))
        refine lv_aload_n hx hb dX4_move_32 rfl (lv_at hl 0 rfl) ?_
        refine lv_iload_n hx hb dX4_move_33 rfl (lv_at hl 1 rfl) ?_
        refine cl_i (rest := []) (c_X4_turnBoth l D cA ad A hDD σ i  hI hi (by omega) (by omega)) ⟨hx, hb, hml, hown, hts⟩ hK hP hS kv_X4_82 ⟨Nat.le_of_ble_eq_true rfl, Nat.le_of_ble_eq_true rfl⟩ ⟨Nat.zero_le _, Nat.zero_le _⟩ 0 rfl rfl rfl hl.1 rfl (Nat.le_of_ble_eq_true rfl) (fun q h => h) dX4_move_34 (fun r u1 H locs hw hP hS _ => ?_)
        have hu1 : u1 = (tb σ i).2 := hw.2
        refine tp_i (z := (tb σ i).1) hw.1 ?_
        have st1 := tb_st (v := i) hI hi (by omega)
        rw [← hu1] at st1
        have b1 := st1.2.2.2.2
        have hj1 : j < sVc u1 := by rw [st1.2.1]; exact hj
        have gr1 : sGr u1 ≤ sGr σ + 2 := by rw [hu1]; exact tb_gr
        refine lv_istore (lv' := [(4, .int (tb σ i).1), (0, .ref (ad 0)), (1, .int (nI i)), (2, .int (nI j)), (3, .int n)]) hx hb dX4_move_37 hl (by decide) rfl (fun ls hl => ?_)
        refine lv_iload hx hb dX4_move_39 (lv_at hl 0 rfl) ?_
        refine lv_if_ne (tgt := 51) hx hb dX4_move_41 (by decide) (fun c41 => ?_) (fun c41 => ?_)
        · refine lv_iload hx hb dX4_move_51 (lv_at hl 0 rfl) ?_
          refine lv_if_eq (tgt := 59) hx hb dX4_move_53 (by decide) (fun c9 => absurd c9 (c41)) (fun _ => ?_)
          refine lv_iload hx hb dX4_move_56 (lv_at hl 0 rfl) ?_
          exact rt_i (v := (tb σ i).1) (u := u1) hx hb hr hlocks hS hP ((by rw [move_g1 h0 h1 hn c41]; exact ⟨rfl, hu1⟩)) dX4_move_58
        · refine lv_aload_n hx hb dX4_move_44 rfl (lv_at hl 1 rfl) ?_
          refine lv_iload_n hx hb dX4_move_45 rfl (lv_at hl 3 rfl) ?_
          refine cl_i (rest := []) (c_X4_turnBoth l D cA ad A hDD u1 j  st1.1 hj1 (by omega) (by omega)) ⟨hx, hb, hml, hown, hts⟩ hK hP hS kv_X4_82 ⟨Nat.le_of_ble_eq_true rfl, Nat.le_of_ble_eq_true rfl⟩ ⟨Nat.zero_le _, Nat.zero_le _⟩ 0 rfl rfl rfl hl.1 rfl (Nat.le_of_ble_eq_true rfl) (fun q h => h) dX4_move_46 (fun r u2 H locs hw hP hS _ => ?_)
          have hu2 : u2 = (tb u1 j).2 := hw.2
          refine tp_i (z := (tb u1 j).1) hw.1 ?_
          have st2 := tb_st (v := j) st1.1 hj1 (by omega)
          rw [← hu2] at st2
          have b2 := st2.2.2.2.2
          have hi2 : i < sVc u2 := by rw [st2.2.1, st1.2.1]; exact hi
          have hj2 : j < sVc u2 := by rw [st2.2.1]; exact hj1
          have hvc2 := st2.1.vc
          refine lv_istore (lv' := [(4, .int (tb u1 j).1), (0, .ref (ad 0)), (1, .int (nI i)), (2, .int (nI j)), (3, .int n)]) hx hb dX4_move_49 hl (by decide) rfl (fun ls hl => ?_)
          refine lv_iload hx hb dX4_move_51 (lv_at hl 0 rfl) ?_
          refine lv_if_eq (tgt := 59) hx hb dX4_move_53 (by decide) (fun c53 => ?_) (fun c53 => ?_)
          · by_cases hc : sSm u2 i < n
            · skip
              refine lv_aload_n hx hb dX4_move_59 rfl (lv_at hl 1 rfl) ?_
              refine va_get (D := D) (ci := 4) (v := .ref (ad 2)) (C := RX4) (T := TX4) (N := 7) hx hb hts in_X4 hown hK hP 0 rfl rfl 1 (by decide) (hts _ kf_X4_19) (fun _ h9 => h9) rfl dX4_move_60 ?_
              refine va_get (D := D) (ci := 3) (v := .ref (ad 11)) (C := RX3) (T := TX3) (N := 6) hx hb hts in_X3 hown hK hP 2 rfl rfl 1 (by decide) (hts _ kf_X4_91) (fun _ h9 => h9) rfl dX4_move_63 ?_
              refine lv_iload_n hx hb dX4_move_66 rfl (lv_at hl 2 rfl) ?_
              refine ar_g hx hb hK hP 11 rfl (by omega) (by decide) dX4_move_67 ?_
              refine lv_iload_n hx hb dX4_move_68 rfl (lv_at hl 4 rfl) ?_
              refine lv_icmp_ge (tgt := 79) hx hb dX4_move_69 (by decide) (fun c9 => absurd c9 (i_nle.mpr hc)) (fun _ => ?_)
              refine lv_aload_n hx hb dX4_move_72 rfl (lv_at hl 1 rfl) ?_
              refine lv_bipush (v := (-6)) hx hb dX4_move_73 (by decide) ?_
              refine cl_i (rest := []) (c_X4_raiseAlarm l D cA ad A hDD u2 (-6) st2.1 (by omega)) ⟨hx, hb, hml, hown, hts⟩ hK hP hS kv_X4_94 ⟨Nat.le_of_ble_eq_true rfl, Nat.le_of_ble_eq_true rfl⟩ ⟨Nat.zero_le _, Nat.zero_le _⟩ 0 rfl rfl rfl hl.1 rfl (Nat.le_of_ble_eq_true rfl) (fun q h => h) dX4_move_75 (fun r u H locs hw hP hS _ => ?_)
              rw [hw.2] at hP
              refine tp_i (z := (-6)) hw.1 ?_
              exact rt_i (v := (-6)) (u := (ra u2)) hx hb hr hlocks hS hP ((by rw [move_g h0 h1 hn c41, ← hu1]; unfold g_move; rw [← hu2, if_pos c53, if_pos hc]; exact ⟨rfl, rfl⟩)) dX4_move_78
            · skip
              refine lv_aload_n hx hb dX4_move_59 rfl (lv_at hl 1 rfl) ?_
              refine va_get (D := D) (ci := 4) (v := .ref (ad 2)) (C := RX4) (T := TX4) (N := 7) hx hb hts in_X4 hown hK hP 0 rfl rfl 1 (by decide) (hts _ kf_X4_19) (fun _ h9 => h9) rfl dX4_move_60 ?_
              refine va_get (D := D) (ci := 3) (v := .ref (ad 11)) (C := RX3) (T := TX3) (N := 6) hx hb hts in_X3 hown hK hP 2 rfl rfl 1 (by decide) (hts _ kf_X4_91) (fun _ h9 => h9) rfl dX4_move_63 ?_
              refine lv_iload_n hx hb dX4_move_66 rfl (lv_at hl 2 rfl) ?_
              refine ar_g hx hb hK hP 11 rfl (by omega) (by decide) dX4_move_67 ?_
              refine lv_iload_n hx hb dX4_move_68 rfl (lv_at hl 4 rfl) ?_
              refine lv_icmp_ge (tgt := 79) hx hb dX4_move_69 (by decide) (fun _ => ?_) (fun c9 => absurd (i_nlt.mp hc) c9)
              by_cases hd : sLim u2 j < sSm u2 j + n
              · skip
                refine lv_aload_n hx hb dX4_move_79 rfl (lv_at hl 1 rfl) ?_
                refine va_get (D := D) (ci := 4) (v := .ref (ad 2)) (C := RX4) (T := TX4) (N := 7) hx hb hts in_X4 hown hK hP 0 rfl rfl 1 (by decide) (hts _ kf_X4_19) (fun _ h9 => h9) rfl dX4_move_80 ?_
                refine lv_iload_n hx hb dX4_move_83 rfl (lv_at hl 3 rfl) ?_
                refine lv_iload_n hx hb dX4_move_84 rfl (lv_at hl 4 rfl) ?_
                refine cl_i (rest := []) (c_X3_isTooMuch l D cA ad A hDD u2 j n hj2 hvc2) ⟨hx, hb, hml, hown, hts⟩ hK hP hS kv_X4_85 ⟨Nat.le_of_ble_eq_true rfl, Nat.le_of_ble_eq_true rfl⟩ ⟨Nat.zero_le _, Nat.zero_le _⟩ 2 rfl rfl rfl hl.1 rfl (Nat.le_of_ble_eq_true rfl) (fun q h => h) dX4_move_85 (fun r u H locs hw hP hS _ => ?_)
                rw [hw.2] at hP
                refine tp_i (z := (bz (sLim u2 j < sSm u2 j + n))) hw.1 ?_
                refine tp_i (z := 1) (bz_1 hd) ?_
                refine lv_if_eq (tgt := 101) hx hb dX4_move_88 (by decide) (fun c9 => absurd c9 (by decide)) (fun _ => ?_)
                refine lv_aload_n hx hb dX4_move_91 rfl (lv_at hl 1 rfl) ?_
                refine lv_sipush (v := 300) hx hb dX4_move_92 (by decide) ?_
                refine lv_bipush (v := (-5)) hx hb dX4_move_95 (by decide) ?_
                refine cl_i (rest := []) (c_X4_letGo l D cA ad A hDD u2 300 (-5) st2.1 (by omega)) ⟨hx, hb, hml, hown, hts⟩ hK hP hS kv_X4_88 ⟨Nat.le_of_ble_eq_true rfl, Nat.le_of_ble_eq_true rfl⟩ ⟨Nat.zero_le _, Nat.zero_le _⟩ 0 rfl rfl rfl hl.1 rfl (Nat.le_of_ble_eq_true rfl) (fun q h => h) dX4_move_97 (fun r u H locs hw hP hS _ => ?_)
                rw [hw.2] at hP
                refine tp_i (z := (-5)) hw.1 ?_
                exact rt_i (v := (-5)) (u := (da 300 u2)) hx hb hr hlocks hS hP ((by rw [move_g h0 h1 hn c41, ← hu1]; unfold g_move; rw [← hu2, if_pos c53, if_neg hc, if_pos hd]; exact ⟨rfl, rfl⟩)) dX4_move_100
              · skip
                refine lv_aload_n hx hb dX4_move_79 rfl (lv_at hl 1 rfl) ?_
                refine va_get (D := D) (ci := 4) (v := .ref (ad 2)) (C := RX4) (T := TX4) (N := 7) hx hb hts in_X4 hown hK hP 0 rfl rfl 1 (by decide) (hts _ kf_X4_19) (fun _ h9 => h9) rfl dX4_move_80 ?_
                refine lv_iload_n hx hb dX4_move_83 rfl (lv_at hl 3 rfl) ?_
                refine lv_iload_n hx hb dX4_move_84 rfl (lv_at hl 4 rfl) ?_
                refine cl_i (rest := []) (c_X3_isTooMuch l D cA ad A hDD u2 j n hj2 hvc2) ⟨hx, hb, hml, hown, hts⟩ hK hP hS kv_X4_85 ⟨Nat.le_of_ble_eq_true rfl, Nat.le_of_ble_eq_true rfl⟩ ⟨Nat.zero_le _, Nat.zero_le _⟩ 2 rfl rfl rfl hl.1 rfl (Nat.le_of_ble_eq_true rfl) (fun q h => h) dX4_move_85 (fun r u H locs hw hP hS _ => ?_)
                rw [hw.2] at hP
                refine tp_i (z := (bz (sLim u2 j < sSm u2 j + n))) hw.1 ?_
                refine tp_i (z := 0) (bz_0 hd) ?_
                refine lv_if_eq (tgt := 101) hx hb dX4_move_88 (by decide) (fun _ => ?_) (fun c9 => absurd (by decide) c9)
                refine lv_aload_n hx hb dX4_move_101 rfl (lv_at hl 1 rfl) ?_
                refine va_get (D := D) (ci := 4) (v := .ref (ad 2)) (C := RX4) (T := TX4) (N := 7) hx hb hts in_X4 hown hK hP 0 rfl rfl 1 (by decide) (hts _ kf_X4_19) (fun _ h9 => h9) rfl dX4_move_102 ?_
                refine va_get (D := D) (ci := 3) (v := .ref (ad 11)) (C := RX3) (T := TX3) (N := 6) hx hb hts in_X3 hown hK hP 2 rfl rfl 1 (by decide) (hts _ kf_X4_91) (fun _ h9 => h9) rfl dX4_move_105 ?_
                refine lv_iload_n hx hb dX4_move_108 rfl (lv_at hl 2 rfl) ?_
                refine lv_dup2_11 hx hb dX4_move_109 rfl rfl ?_
                refine ar_g hx hb hK hP 11 rfl (by omega) (by decide) dX4_move_110 ?_
                refine lv_iload_n hx hb dX4_move_111 rfl (lv_at hl 4 rfl) ?_
                refine lv_isub hx hb dX4_move_112 ?_
                refine ar_p hx hb hK hP (hDD _) hS 11 rfl (x := ((sSm u2 i) - n)) (by omega) (by decide) dX4_move_113 (fun H locs hP hS => ?_)
                have hP : va_P D vwCl (cW ad cA (u2.1, ((sLim u2), (upd (sSm u2) i ((sSm u2 i) - n)), (sNx u2), (sLf u2), (sRt u2), (sVc u2)), u2.2.2.1, u2.2.2.2.1, u2.2.2.2.2)) H := hP
                refine lv_aload_n hx hb dX4_move_114 rfl (lv_at hl 1 rfl) ?_
                refine va_get (D := D) (ci := 4) (v := .ref (ad 2)) (C := RX4) (T := TX4) (N := 7) hx hb hts in_X4 hown hK hP 0 rfl rfl 1 (by decide) (hts _ kf_X4_19) (fun _ h9 => h9) rfl dX4_move_115 ?_
                refine va_get (D := D) (ci := 3) (v := .ref (ad 11)) (C := RX3) (T := TX3) (N := 6) hx hb hts in_X3 hown hK hP 2 rfl rfl 1 (by decide) (hts _ kf_X4_91) (fun _ h9 => h9) rfl dX4_move_118 ?_
                refine lv_iload_n hx hb dX4_move_121 rfl (lv_at hl 3 rfl) ?_
                refine lv_dup2_11 hx hb dX4_move_122 rfl rfl ?_
                refine ar_g hx hb hK hP 11 rfl (by omega) (by decide) dX4_move_123 ?_
                refine lv_iload_n hx hb dX4_move_124 rfl (lv_at hl 4 rfl) ?_
                refine lv_iadd hx hb dX4_move_125 ?_
                refine ar_p hx hb hK hP (hDD _) hS 11 rfl (x := (((upd (sSm u2) i ((sSm u2 i) - n)) j) + n)) (by omega) (by decide) dX4_move_126 (fun H locs hP hS => ?_)
                have hP : va_P D vwCl (cW ad cA (u2.1, ((sLim u2), (upd (upd (sSm u2) i ((sSm u2 i) - n)) j (((upd (sSm u2) i ((sSm u2 i) - n)) j) + n)), (sNx u2), (sLf u2), (sRt u2), (sVc u2)), u2.2.2.1, u2.2.2.2.1, u2.2.2.2.2)) H := hP
                refine lv_aload_n hx hb dX4_move_127 rfl (lv_at hl 1 rfl) ?_
                refine lv_sipush (v := 200) hx hb dX4_move_128 (by decide) ?_
                refine lv_aload_n hx hb dX4_move_131 rfl (lv_at hl 1 rfl) ?_
                refine va_get (D := D) (ci := 4) (v := .ref (ad 2)) (C := RX4) (T := TX4) (N := 7) hx hb hts in_X4 hown hK hP 0 rfl rfl 1 (by decide) (hts _ kf_X4_19) (fun _ h9 => h9) rfl dX4_move_132 ?_
                refine va_get (D := D) (ci := 3) (v := .ref (ad 11)) (C := RX3) (T := TX3) (N := 6) hx hb hts in_X3 hown hK hP 2 rfl rfl 1 (by decide) (hts _ kf_X4_91) (fun _ h9 => h9) rfl dX4_move_135 ?_
                refine lv_iload_n hx hb dX4_move_138 rfl (lv_at hl 2 rfl) ?_
                refine ar_g hx hb hK hP 11 rfl (by omega) (by decide) dX4_move_139 ?_
                refine cl_i (rest := []) (c_X4_letGo l D cA ad A hDD (u2.1, ((sLim u2), (upd (upd (sSm u2) i ((sSm u2 i) - n)) j (((upd (sSm u2) i ((sSm u2 i) - n)) j) + n)), (sNx u2), (sLf u2), (sRt u2), (sVc u2)), u2.2.2.1, u2.2.2.2.1, u2.2.2.2.2) 200 ((upd (upd (sSm u2) i ((sSm u2 i) - n)) j (((upd (sSm u2) i ((sSm u2 i) - n)) j) + n)) i) (move_inv st2.1 hi2 hj2 hn hc hd) (by show sBc u2 + sGr u2 < 2147483647; omega)) ⟨hx, hb, hml, hown, hts⟩ hK hP hS kv_X4_88 ⟨Nat.le_of_ble_eq_true rfl, Nat.le_of_ble_eq_true rfl⟩ ⟨Nat.zero_le _, Nat.zero_le _⟩ 0 rfl rfl rfl hl.1 rfl (Nat.le_of_ble_eq_true rfl) (fun q h => h) dX4_move_140 (fun r u H locs hw hP hS _ => ?_)
                rw [hw.2] at hP
                refine tp_i (z := ((upd (upd (sSm u2) i ((sSm u2 i) - n)) j (((upd (sSm u2) i ((sSm u2 i) - n)) j) + n)) i)) hw.1 ?_
                exact rt_i (v := ((upd (upd (sSm u2) i ((sSm u2 i) - n)) j (((upd (sSm u2) i ((sSm u2 i) - n)) j) + n)) i)) (u := (da 200 (u2.1, ((sLim u2), (upd (upd (sSm u2) i ((sSm u2 i) - n)) j (((upd (sSm u2) i ((sSm u2 i) - n)) j) + n)), (sNx u2), (sLf u2), (sRt u2), (sVc u2)), u2.2.2.1, u2.2.2.2.1, u2.2.2.2.2))) hx hb hr hlocks hS hP ((by rw [move_g h0 h1 hn c41, ← hu1]; unfold g_move; rw [← hu2, if_pos c53, if_neg hc, if_neg hd]; exact ⟨rfl, rfl⟩)) dX4_move_143
          · refine lv_iload hx hb dX4_move_56 (lv_at hl 0 rfl) ?_
            exact rt_i (v := (tb u1 j).1) (u := u2) hx hb hr hlocks hS hP ((by rw [move_g h0 h1 hn c41, ← hu1]; unfold g_move; rw [if_neg c53]; exact ⟨rfl, hu2⟩)) dX4_move_58
      · skip
        refine lv_iload_n hx hb dX4_move_22 rfl (lv_at hl 3 rfl) ?_
        refine cl_s (rest := []) (c_X4_isAmount l D cA ad A hDD σ n ) ⟨hx, hb, hml, hown, hts⟩ hK hP hS kv_X4_79 ⟨Nat.le_of_ble_eq_true rfl, Nat.le_of_ble_eq_true rfl⟩ ⟨Nat.zero_le _, Nat.zero_le _⟩ rfl hl.1 rfl (Nat.le_of_ble_eq_true rfl) (fun q h => h) dX4_move_23 (fun r u H locs hw hP hS => ?_)
        rw [hw.2] at hP
        refine tp_i (z := (bz (amt n))) hw.1 ?_
        refine tp_i (z := 0) (bz_0 hn) ?_
        refine lv_if_ne (tgt := 32) hx hb dX4_move_26 (by decide) (fun c9 => absurd (by decide) c9) (fun _ => ?_)
        refine lv_bipush (v := (-2)) hx hb dX4_move_29 (by decide) ?_
        exact rt_i (v := (-2)) (u := σ) hx hb hr hlocks hS hP (pr2 (move_b3 h0 h1 hn)) dX4_move_31
set_option maxHeartbeats 4000000 in
set_option maxRecDepth 100000 in
theorem c_X4_swap (l : Launch) (D : va_G) (cA : ClassId) (ad : Nat → Nat) (A : Nat → Prop) (hDD : ∀ u, va_D A (cW ad cA u)) (σ : CS) (v : Int32) (hI : Inv σ) (hg : sGr σ = 0) (hb9 : sBc σ ≤ 1000000000) : Ct l D cA (cW ad cA) A yX4_swap cX4_swap 5 (some .int) 4 88 [.ref (ad 0), .int v] σ (fun r u => r = (f_swap σ v).1 ∧ u = (f_swap σ v).2) := by
  refine Ct.of (by decide) (Nat.le_of_ble_eq_true rfl) ?_
  intro p e s m below meth c ls S0 hr hlocks hK hP hS hl
  obtain ⟨hx, hb, hml, hown, hts⟩ := id S0
  have hl : lv_has ls 5 [(0, .ref (ad 0)), (1, .int v)] := hl
  have hkc := hI.kc
  have hvc := hI.vc
  have hgc := hI.gr
  have htc := hI.tc
  rcases ix_cases (n := sVc σ) v (by omega) with h0 | ⟨j, hj, rfl⟩
  · refine lv_aload_n hx hb dX4_swap_0 rfl (lv_at hl 0 rfl) ?_
    refine va_get (D := D) (ci := 4) (v := .ref (ad 2)) (C := RX4) (T := TX4) (N := 7) hx hb hts in_X4 hown hK hP 0 rfl rfl 1 (by decide) (hts _ kf_X4_19) (fun _ h9 => h9) rfl dX4_swap_1 ?_
    refine lv_iload_n hx hb dX4_swap_4 rfl (lv_at hl 1 rfl) ?_
    refine cl_i (rest := []) (c_X3_has l D cA ad A hDD σ v ) ⟨hx, hb, hml, hown, hts⟩ hK hP hS kv_X4_75 ⟨Nat.le_of_ble_eq_true rfl, Nat.le_of_ble_eq_true rfl⟩ ⟨Nat.zero_le _, Nat.zero_le _⟩ 2 rfl rfl rfl hl.1 rfl (Nat.le_of_ble_eq_true rfl) (fun q h => h) dX4_swap_5 (fun r u H locs hw hP hS _ => ?_)
    rw [hw.2] at hP
    refine tp_i (z := (hz (sVc σ) v)) hw.1 ?_
    refine tp_i (z := 0) (hz_0 h0) ?_
    refine lv_if_ne (tgt := 14) hx hb dX4_swap_8 (by decide) (fun c9 => absurd (by decide) c9) (fun _ => ?_)
    refine lv_bipush (v := (-2)) hx hb dX4_swap_11 (by decide) ?_
    exact rt_i (v := (-2)) (u := σ) hx hb hr hlocks hS hP (pr2 (swap_b1 h0)) dX4_swap_13
  · have h0 := ix_nI hj (n := sVc σ) (by omega)
    refine lv_aload_n hx hb dX4_swap_0 rfl (lv_at hl 0 rfl) ?_
    refine va_get (D := D) (ci := 4) (v := .ref (ad 2)) (C := RX4) (T := TX4) (N := 7) hx hb hts in_X4 hown hK hP 0 rfl rfl 1 (by decide) (hts _ kf_X4_19) (fun _ h9 => h9) rfl dX4_swap_1 ?_
    refine lv_iload_n hx hb dX4_swap_4 rfl (lv_at hl 1 rfl) ?_
    refine cl_i (rest := []) (c_X3_has l D cA ad A hDD σ (nI j) ) ⟨hx, hb, hml, hown, hts⟩ hK hP hS kv_X4_75 ⟨Nat.le_of_ble_eq_true rfl, Nat.le_of_ble_eq_true rfl⟩ ⟨Nat.zero_le _, Nat.zero_le _⟩ 2 rfl rfl rfl hl.1 rfl (Nat.le_of_ble_eq_true rfl) (fun q h => h) dX4_swap_5 (fun r u H locs hw hP hS _ => ?_)
    rw [hw.2] at hP
    refine tp_i (z := (hz (sVc σ) (nI j))) hw.1 ?_
    refine tp_i (z := 1) (hz_1 h0) ?_
    refine lv_if_ne (tgt := 14) hx hb dX4_swap_8 (by decide) (fun _ => ?_) (fun c9 => absurd c9 (by decide))
    refine lv_aload_n hx hb dX4_swap_14 rfl (lv_at hl 0 rfl) ?_
    refine lv_iload_n hx hb dX4_swap_15 rfl (lv_at hl 1 rfl) ?_
    refine cl_i (rest := []) (c_X4_turnBoth l D cA ad A hDD σ j  hI hj (by omega) (by omega)) ⟨hx, hb, hml, hown, hts⟩ hK hP hS kv_X4_82 ⟨Nat.le_of_ble_eq_true rfl, Nat.le_of_ble_eq_true rfl⟩ ⟨Nat.zero_le _, Nat.zero_le _⟩ 0 rfl rfl rfl hl.1 rfl (Nat.le_of_ble_eq_true rfl) (fun q h => h) dX4_swap_16 (fun r u H locs hw hP hS _ => ?_)
    rw [hw.2] at hP
    refine tp_i (z := (tb σ j).1) hw.1 ?_
    refine lv_istore_n (lv' := [(2, .int (tb σ j).1), (0, .ref (ad 0)), (1, .int (nI j))]) hx hb dX4_swap_19 rfl hl (by decide) rfl (fun ls hl => ?_)
    refine lv_iload_n hx hb dX4_swap_20 rfl (lv_at hl 0 rfl) ?_
    refine lv_if_eq (tgt := 26) hx hb dX4_swap_21 (by decide) (fun c21 => ?_) (fun c21 => ?_)
    · have st1 := tb_st (v := j) hI hj (by omega)
      have b1 := st1.2.2.2.2
      have hj1 : j < sVc (tb σ j).2 := by rw [st1.2.1]; exact hj
      have hvc1 := st1.1.vc
      refine lv_aload_n hx hb dX4_swap_26 rfl (lv_at hl 1 rfl) ?_
      refine va_get (D := D) (ci := 4) (v := .ref (ad 2)) (C := RX4) (T := TX4) (N := 7) hx hb hts in_X4 hown hK hP 0 rfl rfl 1 (by decide) (hts _ kf_X4_19) (fun _ h9 => h9) rfl dX4_swap_27 ?_
      refine lv_iload_n hx hb dX4_swap_30 rfl (lv_at hl 2 rfl) ?_
      refine lv_iconst (v := 0) hx hb dX4_swap_31 (by decide) ?_
      refine cl_i (rest := []) (c_X3_keyAt l D cA ad A hDD (tb σ j).2 j 0 hj1 hvc1) ⟨hx, hb, hml, hown, hts⟩ hK hP hS kv_X4_68 ⟨Nat.le_of_ble_eq_true rfl, Nat.le_of_ble_eq_true rfl⟩ ⟨Nat.zero_le _, Nat.zero_le _⟩ 2 rfl rfl rfl hl.1 rfl (Nat.le_of_ble_eq_true rfl) (fun q h => h) dX4_swap_32 (fun r u H locs hw hP hS _ => ?_)
      rw [hw.2] at hP
      refine tp_i (z := (hd (tb σ j).2 j 0)) hw.1 ?_
      refine lv_istore_n (lv' := [(3, .int (hd (tb σ j).2 j 0)), (2, .int (tb σ j).1), (0, .ref (ad 0)), (1, .int (nI j))]) hx hb dX4_swap_35 rfl hl (by decide) rfl (fun ls hl => ?_)
      refine lv_aload_n hx hb dX4_swap_36 rfl (lv_at hl 2 rfl) ?_
      refine va_get (D := D) (ci := 4) (v := .ref (ad 2)) (C := RX4) (T := TX4) (N := 7) hx hb hts in_X4 hown hK hP 0 rfl rfl 1 (by decide) (hts _ kf_X4_19) (fun _ h9 => h9) rfl dX4_swap_37 ?_
      refine lv_iload_n hx hb dX4_swap_40 rfl (lv_at hl 3 rfl) ?_
      refine lv_iconst (v := 1) hx hb dX4_swap_41 (by decide) ?_
      refine cl_i (rest := []) (c_X3_keyAt l D cA ad A hDD (tb σ j).2 j 1 hj1 hvc1) ⟨hx, hb, hml, hown, hts⟩ hK hP hS kv_X4_68 ⟨Nat.le_of_ble_eq_true rfl, Nat.le_of_ble_eq_true rfl⟩ ⟨Nat.zero_le _, Nat.zero_le _⟩ 2 rfl rfl rfl hl.1 rfl (Nat.le_of_ble_eq_true rfl) (fun q h => h) dX4_swap_42 (fun r u H locs hw hP hS _ => ?_)
      rw [hw.2] at hP
      refine tp_i (z := (hd (tb σ j).2 j 1)) hw.1 ?_
      refine lv_istore (lv' := [(4, .int (hd (tb σ j).2 j 1)), (3, .int (hd (tb σ j).2 j 0)), (2, .int (tb σ j).1), (0, .ref (ad 0)), (1, .int (nI j))]) hx hb dX4_swap_45 hl (by decide) rfl (fun ls hl => ?_)
      refine lv_aload_n hx hb dX4_swap_47 rfl (lv_at hl 3 rfl) ?_
      refine va_get (D := D) (ci := 4) (v := .ref (ad 2)) (C := RX4) (T := TX4) (N := 7) hx hb hts in_X4 hown hK hP 0 rfl rfl 1 (by decide) (hts _ kf_X4_19) (fun _ h9 => h9) rfl dX4_swap_48 ?_
      refine lv_iload_n hx hb dX4_swap_51 rfl (lv_at hl 4 rfl) ?_
      refine lv_iconst (v := 0) hx hb dX4_swap_52 (by decide) ?_
      refine lv_iload hx hb dX4_swap_53 (lv_at hl 0 rfl) ?_
      refine cl_v (rest := []) (c_X3_setKeyAt l D cA ad A hDD (tb σ j).2 j 0 (hd (tb σ j).2 j 1) hj1 hvc1) ⟨hx, hb, hml, hown, hts⟩ hK hP hS kv_X4_71 ⟨Nat.le_of_ble_eq_true rfl, Nat.le_of_ble_eq_true rfl⟩ ⟨Nat.zero_le _, Nat.zero_le _⟩ 2 rfl rfl rfl hl.1 rfl (Nat.le_of_ble_eq_true rfl) (fun q h => h) dX4_swap_55 (fun u H locs hw hP hS _ => ?_)
      rw [hw] at hP
      refine lv_aload_n hx hb dX4_swap_58 rfl (lv_at hl 3 rfl) ?_
      refine va_get (D := D) (ci := 4) (v := .ref (ad 2)) (C := RX4) (T := TX4) (N := 7) hx hb hts in_X4 hown hK hP 0 rfl rfl 1 (by decide) (hts _ kf_X4_19) (fun _ h9 => h9) rfl dX4_swap_59 ?_
      refine lv_iload_n hx hb dX4_swap_62 rfl (lv_at hl 4 rfl) ?_
      refine lv_iconst (v := 1) hx hb dX4_swap_63 (by decide) ?_
      refine lv_iload_n hx hb dX4_swap_64 rfl (lv_at hl 1 rfl) ?_
      refine cl_v (rest := []) (c_X3_setKeyAt l D cA ad A hDD (shk (tb σ j).2 j 0 (hd (tb σ j).2 j 1)) j 1 (hd (tb σ j).2 j 0) (by unfold shk; rw [if_pos rfl]; exact hj1) (by unfold shk; rw [if_pos rfl]; exact hvc1)) ⟨hx, hb, hml, hown, hts⟩ hK hP hS kv_X4_71 ⟨Nat.le_of_ble_eq_true rfl, Nat.le_of_ble_eq_true rfl⟩ ⟨Nat.zero_le _, Nat.zero_le _⟩ 2 rfl rfl rfl hl.1 rfl (Nat.le_of_ble_eq_true rfl) (fun q h => h) dX4_swap_65 (fun u H locs hw hP hS _ => ?_)
      rw [hw] at hP
      have es : shk (shk (tb σ j).2 j 0 (hd (tb σ j).2 j 1)) j 1 (hd (tb σ j).2 j 0) = ((tb σ j).2.1, (sLim (tb σ j).2, sSm (tb σ j).2, sNx (tb σ j).2, upd (sLf (tb σ j).2) j (sRt (tb σ j).2 j), upd (sRt (tb σ j).2) j (sLf (tb σ j).2 j), sVc (tb σ j).2), (tb σ j).2.2.2) := by unfold shk; rw [if_pos rfl, if_neg (by decide), hd_0, hd_1]
      rw [es] at hP
      refine lv_aload_n hx hb dX4_swap_68 rfl (lv_at hl 3 rfl) ?_
      refine lv_sipush (v := 200) hx hb dX4_swap_69 (by decide) ?_
      refine lv_iload hx hb dX4_swap_72 (lv_at hl 0 rfl) ?_
      refine cl_i (rest := []) (c_X4_letGo l D cA ad A hDD ((tb σ j).2.1, (sLim (tb σ j).2, sSm (tb σ j).2, sNx (tb σ j).2, upd (sLf (tb σ j).2) j (sRt (tb σ j).2 j), upd (sRt (tb σ j).2) j (sLf (tb σ j).2 j), sVc (tb σ j).2), (tb σ j).2.2.2) 200 (hd (tb σ j).2 j 1) (swap_inv st1.1 hj1) (by show sBc (tb σ j).2 + sGr (tb σ j).2 < 2147483647; omega)) ⟨hx, hb, hml, hown, hts⟩ hK hP hS kv_X4_88 ⟨Nat.le_of_ble_eq_true rfl, Nat.le_of_ble_eq_true rfl⟩ ⟨Nat.zero_le _, Nat.zero_le _⟩ 0 rfl rfl rfl hl.1 rfl (Nat.le_of_ble_eq_true rfl) (fun q h => h) dX4_swap_74 (fun r u H locs hw hP hS _ => ?_)
      rw [hw.2] at hP
      refine tp_i (z := (hd (tb σ j).2 j 1)) hw.1 ?_
      exact rt_i (v := (hd (tb σ j).2 j 1)) (u := (da 200 ((tb σ j).2.1, (sLim (tb σ j).2, sSm (tb σ j).2, sNx (tb σ j).2, upd (sLf (tb σ j).2) j (sRt (tb σ j).2 j), upd (sRt (tb σ j).2) j (sLf (tb σ j).2 j), sVc (tb σ j).2), (tb σ j).2.2.2))) hx hb hr hlocks hS hP ((by rw [swap_g h0]; unfold g_swap; rw [if_pos c21]; exact ⟨hd_1 _ _, rfl⟩)) dX4_swap_77
    · refine lv_iload_n hx hb dX4_swap_24 rfl (lv_at hl 0 rfl) ?_
      exact rt_i (v := (tb σ j).1) (u := (tb σ j).2) hx hb hr hlocks hS hP ((by rw [swap_g h0]; unfold g_swap; rw [if_neg c21]; exact ⟨rfl, rfl⟩)) dX4_swap_25
set_option maxHeartbeats 4000000 in
set_option maxRecDepth 100000 in
theorem c_X4_polish (l : Launch) (D : va_G) (cA : ClassId) (ad : Nat → Nat) (A : Nat → Prop) (hDD : ∀ u, va_D A (cW ad cA u)) (σ : CS) (k : Int32) (hI : Inv σ) (hg : sGr σ = 0) (hb9 : sBc σ ≤ 1000000000) : Ct l D cA (cW ad cA) A yX4_polish cX4_polish 3 (some .int) 2 45 [.ref (ad 0), .int k] σ (fun r u => r = (f_polish σ k).1 ∧ u = (f_polish σ k).2) := by
  refine Ct.of (by decide) (Nat.le_of_ble_eq_true rfl) ?_
  intro p e s m below meth c ls S0 hr hlocks hK hP hS hl
  obtain ⟨hx, hb, hml, hown, hts⟩ := id S0
  have hl : lv_has ls 3 [(0, .ref (ad 0)), (1, .int k)] := hl
  have hkc := hI.kc
  have hvc := hI.vc
  have hgc := hI.gr
  have htc := hI.tc
  rcases ix_cases (n := sKc σ) k (by omega) with h0 | ⟨j, hj, rfl⟩
  · refine lv_aload_n hx hb dX4_polish_0 rfl (lv_at hl 0 rfl) ?_
    refine va_get (D := D) (ci := 4) (v := .ref (ad 1)) (C := RX4) (T := TX4) (N := 7) hx hb hts in_X4 hown hK hP 0 rfl rfl 0 (by decide) (hts _ kf_X4_10) (fun _ h9 => h9) rfl dX4_polish_1 ?_
    refine lv_iload_n hx hb dX4_polish_4 rfl (lv_at hl 1 rfl) ?_
    refine cl_i (rest := []) (c_X1_has l D cA ad A hDD σ k ) ⟨hx, hb, hml, hown, hts⟩ hK hP hS kv_X4_64 ⟨Nat.le_of_ble_eq_true rfl, Nat.le_of_ble_eq_true rfl⟩ ⟨Nat.zero_le _, Nat.zero_le _⟩ 1 rfl rfl rfl hl.1 rfl (Nat.le_of_ble_eq_true rfl) (fun q h => h) dX4_polish_5 (fun r u H locs hw hP hS _ => ?_)
    rw [hw.2] at hP
    refine tp_i (z := (hz (sKc σ) k)) hw.1 ?_
    refine tp_i (z := 0) (hz_0 h0) ?_
    refine lv_if_ne (tgt := 14) hx hb dX4_polish_8 (by decide) (fun c9 => absurd (by decide) c9) (fun _ => ?_)
    refine lv_bipush (v := (-2)) hx hb dX4_polish_11 (by decide) ?_
    exact rt_i (v := (-2)) (u := σ) hx hb hr hlocks hS hP (pr2 (pol_b h0)) dX4_polish_13
  · have h0 := ix_nI hj (n := sKc σ) (by omega)
    refine lv_aload_n hx hb dX4_polish_0 rfl (lv_at hl 0 rfl) ?_
    refine va_get (D := D) (ci := 4) (v := .ref (ad 1)) (C := RX4) (T := TX4) (N := 7) hx hb hts in_X4 hown hK hP 0 rfl rfl 0 (by decide) (hts _ kf_X4_10) (fun _ h9 => h9) rfl dX4_polish_1 ?_
    refine lv_iload_n hx hb dX4_polish_4 rfl (lv_at hl 1 rfl) ?_
    refine cl_i (rest := []) (c_X1_has l D cA ad A hDD σ (nI j) ) ⟨hx, hb, hml, hown, hts⟩ hK hP hS kv_X4_64 ⟨Nat.le_of_ble_eq_true rfl, Nat.le_of_ble_eq_true rfl⟩ ⟨Nat.zero_le _, Nat.zero_le _⟩ 1 rfl rfl rfl hl.1 rfl (Nat.le_of_ble_eq_true rfl) (fun q h => h) dX4_polish_5 (fun r u H locs hw hP hS _ => ?_)
    rw [hw.2] at hP
    refine tp_i (z := (hz (sKc σ) (nI j))) hw.1 ?_
    refine tp_i (z := 1) (hz_1 h0) ?_
    refine lv_if_ne (tgt := 14) hx hb dX4_polish_8 (by decide) (fun _ => ?_) (fun c9 => absurd c9 (by decide))
    refine lv_aload_n hx hb dX4_polish_14 rfl (lv_at hl 0 rfl) ?_
    refine lv_iload_n hx hb dX4_polish_15 rfl (lv_at hl 1 rfl) ?_
    refine cl_i (rest := []) (c_X4_turnKey l D cA ad A hDD σ j hI hj (by omega) (by omega)) ⟨hx, hb, hml, hown, hts⟩ hK hP hS kv_X4_97 ⟨Nat.le_of_ble_eq_true rfl, Nat.le_of_ble_eq_true rfl⟩ ⟨Nat.zero_le _, Nat.zero_le _⟩ 0 rfl rfl rfl hl.1 rfl (Nat.le_of_ble_eq_true rfl) (fun q h => h) dX4_polish_16 (fun r u H locs hw hP hS _ => ?_)
    rw [hw.2] at hP
    refine tp_i (z := (tkc σ j).1) hw.1 ?_
    have et : tkc σ j = (0, tn σ j) := tkc_free hI hj hg
    rw [et] at hP
    have hP : va_P D vwCl (cW ad cA (tn σ j)) H := hP
    have hI1 := tn_inv hI hj (key_free hI hj hg) (by omega)
    refine lv_pop hx hb dX4_polish_19 rfl ?_
    refine lv_aload_n hx hb dX4_polish_20 rfl (lv_at hl 0 rfl) ?_
    refine va_get (D := D) (ci := 4) (v := .ref (ad 1)) (C := RX4) (T := TX4) (N := 7) hx hb hts in_X4 hown hK hP 0 rfl rfl 0 (by decide) (hts _ kf_X4_10) (fun _ h9 => h9) rfl dX4_polish_21 ?_
    refine va_get (D := D) (ci := 1) (v := .ref (ad 8)) (C := RX1) (T := TX1) (N := 5) hx hb hts in_X1 hown hK hP 1 rfl rfl 2 (by decide) (hts _ kf_X4_100) (fun _ h9 => h9) rfl dX4_polish_24 ?_
    refine lv_iload_n hx hb dX4_polish_27 rfl (lv_at hl 1 rfl) ?_
    refine ar_g hx hb hK hP 8 rfl (by omega) (by decide) dX4_polish_28 ?_
    refine lv_istore_n (lv' := [(2, .int (sWea (tn σ j) j)), (0, .ref (ad 0)), (1, .int (nI j))]) hx hb dX4_polish_29 rfl hl (by decide) rfl (fun ls hl => ?_)
    refine lv_aload_n hx hb dX4_polish_30 rfl (lv_at hl 1 rfl) ?_
    refine va_get (D := D) (ci := 4) (v := .ref (ad 1)) (C := RX4) (T := TX4) (N := 7) hx hb hts in_X4 hown hK hP 0 rfl rfl 0 (by decide) (hts _ kf_X4_10) (fun _ h9 => h9) rfl dX4_polish_31 ?_
    refine va_get (D := D) (ci := 1) (v := .ref (ad 8)) (C := RX1) (T := TX1) (N := 5) hx hb hts in_X1 hown hK hP 1 rfl rfl 2 (by decide) (hts _ kf_X4_100) (fun _ h9 => h9) rfl dX4_polish_34 ?_
    refine lv_iload_n hx hb dX4_polish_37 rfl (lv_at hl 2 rfl) ?_
    refine lv_iconst (v := 0) hx hb dX4_polish_38 (by decide) ?_
    refine ar_p hx hb hK hP (hDD _) hS 8 rfl (x := 0) (by omega) (by decide) dX4_polish_39 (fun H locs hP hS => ?_)
    have hP : va_P D vwCl (cW ad cA (((sTee (tn σ j)), (sStr (tn σ j)), (upd (sWea (tn σ j)) j 0), (sHel (tn σ j)), (sKc (tn σ j))), (tn σ j).2.1, (tn σ j).2.2.1, (tn σ j).2.2.2.1, (tn σ j).2.2.2.2)) H := hP
    refine lv_aload_n hx hb dX4_polish_40 rfl (lv_at hl 1 rfl) ?_
    refine lv_sipush (v := 200) hx hb dX4_polish_41 (by decide) ?_
    refine lv_iload_n hx hb dX4_polish_44 rfl (lv_at hl 0 rfl) ?_
    refine cl_i (rest := []) (c_X4_letGo l D cA ad A hDD (((sTee (tn σ j)), (sStr (tn σ j)), (upd (sWea (tn σ j)) j 0), (sHel (tn σ j)), (sKc (tn σ j))), (tn σ j).2.1, (tn σ j).2.2.1, (tn σ j).2.2.2.1, (tn σ j).2.2.2.2) 200 (sWea (tn σ j) j) (pol_inv hI1 hj) (by show sBc σ + 1 + (sGr σ + 1) < 2147483647; omega)) ⟨hx, hb, hml, hown, hts⟩ hK hP hS kv_X4_88 ⟨Nat.le_of_ble_eq_true rfl, Nat.le_of_ble_eq_true rfl⟩ ⟨Nat.zero_le _, Nat.zero_le _⟩ 0 rfl rfl rfl hl.1 rfl (Nat.le_of_ble_eq_true rfl) (fun q h => h) dX4_polish_45 (fun r u H locs hw hP hS _ => ?_)
    rw [hw.2] at hP
    refine tp_i (z := (sWea (tn σ j) j)) hw.1 ?_
    exact rt_i (v := (sWea (tn σ j) j)) (u := (da 200 (((sTee (tn σ j)), (sStr (tn σ j)), (upd (sWea (tn σ j)) j 0), (sHel (tn σ j)), (sKc (tn σ j))), (tn σ j).2.1, (tn σ j).2.2.1, (tn σ j).2.2.2.1, (tn σ j).2.2.2.2))) hx hb hr hlocks hS hP (pr2 (pol_g h0)) dX4_polish_48
set_option maxHeartbeats 4000000 in
set_option maxRecDepth 100000 in
theorem c_X4_sum (l : Launch) (D : va_G) (cA : ClassId) (ad : Nat → Nat) (A : Nat → Prop) (hDD : ∀ u, va_D A (cW ad cA u)) (σ : CS) (v : Int32) (hI : Inv σ) (hg : sGr σ = 0) (hb9 : sBc σ ≤ 1000000000) : Ct l D cA (cW ad cA) A yX4_sum cX4_sum 2 (some .int) 1 21 [.ref (ad 0), .int v] σ (fun r u => r = f_sum σ v ∧ u = σ) := by
  refine Ct.of (by decide) (Nat.le_of_ble_eq_true rfl) ?_
  intro p e s m below meth c ls S0 hr hlocks hK hP hS hl
  obtain ⟨hx, hb, hml, hown, hts⟩ := id S0
  have hl : lv_has ls 2 [(0, .ref (ad 0)), (1, .int v)] := hl
  have hkc := hI.kc
  have hvc := hI.vc
  have hgc := hI.gr
  have htc := hI.tc
  rcases ix_cases (n := sVc σ) v (by omega) with h0 | ⟨j, hj, rfl⟩
  · refine lv_aload_n hx hb dX4_sum_0 rfl (lv_at hl 0 rfl) ?_
    refine va_get (D := D) (ci := 4) (v := .ref (ad 2)) (C := RX4) (T := TX4) (N := 7) hx hb hts in_X4 hown hK hP 0 rfl rfl 1 (by decide) (hts _ kf_X4_19) (fun _ h9 => h9) rfl dX4_sum_1 ?_
    refine lv_iload_n hx hb dX4_sum_4 rfl (lv_at hl 1 rfl) ?_
    refine cl_i (rest := []) (c_X3_has l D cA ad A hDD σ v ) ⟨hx, hb, hml, hown, hts⟩ hK hP hS kv_X4_75 ⟨Nat.le_of_ble_eq_true rfl, Nat.le_of_ble_eq_true rfl⟩ ⟨Nat.zero_le _, Nat.zero_le _⟩ 2 rfl rfl rfl hl.1 rfl (Nat.le_of_ble_eq_true rfl) (fun q h => h) dX4_sum_5 (fun r u H locs hw hP hS _ => ?_)
    rw [hw.2] at hP
    refine tp_i (z := (hz (sVc σ) v)) hw.1 ?_
    refine tp_i (z := 0) (hz_0 h0) ?_
    refine lv_if_eq (tgt := 23) hx hb dX4_sum_8 (by decide) (fun _ => ?_) (fun c9 => absurd (by decide) c9)
    refine lv_bipush (v := (-2)) hx hb dX4_sum_23 (by decide) ?_
    exact rt_i (v := (-2)) (u := σ) hx hb hr hlocks hS hP (⟨(sum_n h0).symm, rfl⟩) dX4_sum_25
  · have h0 := ix_nI hj (n := sVc σ) (by omega)
    refine lv_aload_n hx hb dX4_sum_0 rfl (lv_at hl 0 rfl) ?_
    refine va_get (D := D) (ci := 4) (v := .ref (ad 2)) (C := RX4) (T := TX4) (N := 7) hx hb hts in_X4 hown hK hP 0 rfl rfl 1 (by decide) (hts _ kf_X4_19) (fun _ h9 => h9) rfl dX4_sum_1 ?_
    refine lv_iload_n hx hb dX4_sum_4 rfl (lv_at hl 1 rfl) ?_
    refine cl_i (rest := []) (c_X3_has l D cA ad A hDD σ (nI j) ) ⟨hx, hb, hml, hown, hts⟩ hK hP hS kv_X4_75 ⟨Nat.le_of_ble_eq_true rfl, Nat.le_of_ble_eq_true rfl⟩ ⟨Nat.zero_le _, Nat.zero_le _⟩ 2 rfl rfl rfl hl.1 rfl (Nat.le_of_ble_eq_true rfl) (fun q h => h) dX4_sum_5 (fun r u H locs hw hP hS _ => ?_)
    rw [hw.2] at hP
    refine tp_i (z := (hz (sVc σ) (nI j))) hw.1 ?_
    refine tp_i (z := 1) (hz_1 h0) ?_
    refine lv_if_eq (tgt := 23) hx hb dX4_sum_8 (by decide) (fun c9 => absurd c9 (by decide)) (fun _ => ?_)
    refine lv_aload_n hx hb dX4_sum_11 rfl (lv_at hl 0 rfl) ?_
    refine va_get (D := D) (ci := 4) (v := .ref (ad 2)) (C := RX4) (T := TX4) (N := 7) hx hb hts in_X4 hown hK hP 0 rfl rfl 1 (by decide) (hts _ kf_X4_19) (fun _ h9 => h9) rfl dX4_sum_12 ?_
    refine va_get (D := D) (ci := 3) (v := .ref (ad 11)) (C := RX3) (T := TX3) (N := 6) hx hb hts in_X3 hown hK hP 2 rfl rfl 1 (by decide) (hts _ kf_X4_91) (fun _ h9 => h9) rfl dX4_sum_15 ?_
    refine lv_iload_n hx hb dX4_sum_18 rfl (lv_at hl 1 rfl) ?_
    refine ar_g hx hb hK hP 11 rfl (by omega) (by decide) dX4_sum_19 ?_
    refine lv_goto (tgt := 25) hx hb dX4_sum_20 (by decide) ?_
    exact rt_i (v := (sSm σ j)) (u := σ) hx hb hr hlocks hS hP (⟨(sum_s h0).symm, rfl⟩) dX4_sum_25
set_option maxHeartbeats 4000000 in
set_option maxRecDepth 100000 in
theorem c_X4_wear (l : Launch) (D : va_G) (cA : ClassId) (ad : Nat → Nat) (A : Nat → Prop) (hDD : ∀ u, va_D A (cW ad cA u)) (σ : CS) (k : Int32) (hI : Inv σ) (hg : sGr σ = 0) (hb9 : sBc σ ≤ 1000000000) : Ct l D cA (cW ad cA) A yX4_wear cX4_wear 2 (some .int) 1 21 [.ref (ad 0), .int k] σ (fun r u => r = f_wear σ k ∧ u = σ) := by
  refine Ct.of (by decide) (Nat.le_of_ble_eq_true rfl) ?_
  intro p e s m below meth c ls S0 hr hlocks hK hP hS hl
  obtain ⟨hx, hb, hml, hown, hts⟩ := id S0
  have hl : lv_has ls 2 [(0, .ref (ad 0)), (1, .int k)] := hl
  have hkc := hI.kc
  have hvc := hI.vc
  have hgc := hI.gr
  have htc := hI.tc
  rcases ix_cases (n := sKc σ) k (by omega) with h0 | ⟨j, hj, rfl⟩
  · refine lv_aload_n hx hb dX4_wear_0 rfl (lv_at hl 0 rfl) ?_
    refine va_get (D := D) (ci := 4) (v := .ref (ad 1)) (C := RX4) (T := TX4) (N := 7) hx hb hts in_X4 hown hK hP 0 rfl rfl 0 (by decide) (hts _ kf_X4_10) (fun _ h9 => h9) rfl dX4_wear_1 ?_
    refine lv_iload_n hx hb dX4_wear_4 rfl (lv_at hl 1 rfl) ?_
    refine cl_i (rest := []) (c_X1_has l D cA ad A hDD σ k ) ⟨hx, hb, hml, hown, hts⟩ hK hP hS kv_X4_64 ⟨Nat.le_of_ble_eq_true rfl, Nat.le_of_ble_eq_true rfl⟩ ⟨Nat.zero_le _, Nat.zero_le _⟩ 1 rfl rfl rfl hl.1 rfl (Nat.le_of_ble_eq_true rfl) (fun q h => h) dX4_wear_5 (fun r u H locs hw hP hS _ => ?_)
    rw [hw.2] at hP
    refine tp_i (z := (hz (sKc σ) k)) hw.1 ?_
    refine tp_i (z := 0) (hz_0 h0) ?_
    refine lv_if_eq (tgt := 23) hx hb dX4_wear_8 (by decide) (fun _ => ?_) (fun c9 => absurd (by decide) c9)
    refine lv_bipush (v := (-2)) hx hb dX4_wear_23 (by decide) ?_
    exact rt_i (v := (-2)) (u := σ) hx hb hr hlocks hS hP (⟨(wear_n h0).symm, rfl⟩) dX4_wear_25
  · have h0 := ix_nI hj (n := sKc σ) (by omega)
    refine lv_aload_n hx hb dX4_wear_0 rfl (lv_at hl 0 rfl) ?_
    refine va_get (D := D) (ci := 4) (v := .ref (ad 1)) (C := RX4) (T := TX4) (N := 7) hx hb hts in_X4 hown hK hP 0 rfl rfl 0 (by decide) (hts _ kf_X4_10) (fun _ h9 => h9) rfl dX4_wear_1 ?_
    refine lv_iload_n hx hb dX4_wear_4 rfl (lv_at hl 1 rfl) ?_
    refine cl_i (rest := []) (c_X1_has l D cA ad A hDD σ (nI j) ) ⟨hx, hb, hml, hown, hts⟩ hK hP hS kv_X4_64 ⟨Nat.le_of_ble_eq_true rfl, Nat.le_of_ble_eq_true rfl⟩ ⟨Nat.zero_le _, Nat.zero_le _⟩ 1 rfl rfl rfl hl.1 rfl (Nat.le_of_ble_eq_true rfl) (fun q h => h) dX4_wear_5 (fun r u H locs hw hP hS _ => ?_)
    rw [hw.2] at hP
    refine tp_i (z := (hz (sKc σ) (nI j))) hw.1 ?_
    refine tp_i (z := 1) (hz_1 h0) ?_
    refine lv_if_eq (tgt := 23) hx hb dX4_wear_8 (by decide) (fun c9 => absurd c9 (by decide)) (fun _ => ?_)
    refine lv_aload_n hx hb dX4_wear_11 rfl (lv_at hl 0 rfl) ?_
    refine va_get (D := D) (ci := 4) (v := .ref (ad 1)) (C := RX4) (T := TX4) (N := 7) hx hb hts in_X4 hown hK hP 0 rfl rfl 0 (by decide) (hts _ kf_X4_10) (fun _ h9 => h9) rfl dX4_wear_12 ?_
    refine va_get (D := D) (ci := 1) (v := .ref (ad 8)) (C := RX1) (T := TX1) (N := 5) hx hb hts in_X1 hown hK hP 1 rfl rfl 2 (by decide) (hts _ kf_X4_100) (fun _ h9 => h9) rfl dX4_wear_15 ?_
    refine lv_iload_n hx hb dX4_wear_18 rfl (lv_at hl 1 rfl) ?_
    refine ar_g hx hb hK hP 8 rfl (by omega) (by decide) dX4_wear_19 ?_
    refine lv_goto (tgt := 25) hx hb dX4_wear_20 (by decide) ?_
    exact rt_i (v := (sWea σ j)) (u := σ) hx hb hr hlocks hS hP (⟨(wear_s h0).symm, rfl⟩) dX4_wear_25
set_option maxHeartbeats 4000000 in
set_option maxRecDepth 100000 in
theorem c_X4_entries (l : Launch) (D : va_G) (cA : ClassId) (ad : Nat → Nat) (A : Nat → Prop) (hDD : ∀ u, va_D A (cW ad cA u)) (σ : CS) (hI : Inv σ) (hg : sGr σ = 0) (hb9 : sBc σ ≤ 1000000000) : Ct l D cA (cW ad cA) A yX4_entries cX4_entries 1 (some .int) 0 0 [.ref (ad 0)] σ (fun r u => r = nI (sBc σ) ∧ u = σ) := by
  refine Ct.of (by decide) (Nat.le_of_ble_eq_true rfl) ?_
  intro p e s m below meth c ls S0 hr hlocks hK hP hS hl
  obtain ⟨hx, hb, hml, hown, hts⟩ := id S0
  have hl : lv_has ls 1 [(0, .ref (ad 0))] := hl
  have hkc := hI.kc
  have hvc := hI.vc
  have hgc := hI.gr
  have htc := hI.tc
  refine lv_aload_n hx hb dX4_entries_0 rfl (lv_at hl 0 rfl) ?_
  refine va_get (D := D) (ci := 4) (v := .ref (ad 3)) (C := RX4) (T := TX4) (N := 7) hx hb hts in_X4 hown hK hP 0 rfl rfl 2 (by decide) (hts _ kf_X4_26) (fun _ h9 => h9) rfl dX4_entries_1 ?_
  refine va_get (D := D) (ci := 0) (v := .int (nI (sBc σ))) (C := RX0) (T := TX0) (N := 2) hx hb hts in_X0 hown hK hP 3 rfl rfl 1 (by decide) (hts _ kf_X4_127) (fun _ h9 => h9) rfl dX4_entries_4 ?_
  exact rt_i (v := (nI (sBc σ))) (u := σ) hx hb hr hlocks hS hP (⟨rfl, rfl⟩) dX4_entries_7
set_option maxHeartbeats 4000000 in
set_option maxRecDepth 100000 in
theorem c_X4_clear (l : Launch) (D : va_G) (cA : ClassId) (ad : Nat → Nat) (A : Nat → Prop) (hDD : ∀ u, va_D A (cW ad cA u)) (σ : CS) (hI : Inv σ) (hg : sGr σ = 0) (hb9 : sBc σ ≤ 1000000000) : Ct l D cA (cW ad cA) A yX4_clear cX4_clear 2 (some .int) 0 0 [.ref (ad 0)] σ (fun r u => r = nI (sBc σ) ∧ u = sbc σ 0) := by
  refine Ct.of (by decide) (Nat.le_of_ble_eq_true rfl) ?_
  intro p e s m below meth c ls S0 hr hlocks hK hP hS hl
  obtain ⟨hx, hb, hml, hown, hts⟩ := id S0
  have hl : lv_has ls 2 [(0, .ref (ad 0))] := hl
  have hkc := hI.kc
  have hvc := hI.vc
  have hgc := hI.gr
  have htc := hI.tc
  refine lv_aload_n hx hb dX4_clear_0 rfl (lv_at hl 0 rfl) ?_
  refine va_get (D := D) (ci := 4) (v := .ref (ad 3)) (C := RX4) (T := TX4) (N := 7) hx hb hts in_X4 hown hK hP 0 rfl rfl 2 (by decide) (hts _ kf_X4_26) (fun _ h9 => h9) rfl dX4_clear_1 ?_
  refine va_get (D := D) (ci := 0) (v := .int (nI (sBc σ))) (C := RX0) (T := TX0) (N := 2) hx hb hts in_X0 hown hK hP 3 rfl rfl 1 (by decide) (hts _ kf_X4_127) (fun _ h9 => h9) rfl dX4_clear_4 ?_
  refine lv_istore_n (lv' := [(1, .int (nI (sBc σ))), (0, .ref (ad 0))]) hx hb dX4_clear_7 rfl hl (by decide) rfl (fun ls hl => ?_)
  refine lv_aload_n hx hb dX4_clear_8 rfl (lv_at hl 1 rfl) ?_
  refine va_get (D := D) (ci := 4) (v := .ref (ad 3)) (C := RX4) (T := TX4) (N := 7) hx hb hts in_X4 hown hK hP 0 rfl rfl 2 (by decide) (hts _ kf_X4_26) (fun _ h9 => h9) rfl dX4_clear_9 ?_
  refine lv_iconst (v := 0) hx hb dX4_clear_12 (by decide) ?_
  refine tp_i (z := (nI 0)) nI_0.symm ?_
  refine va_put (D := D) (ci := 0) (v := .int (nI 0)) (ty := .int) (C := RX0) (T := TX0) (N := 2) hx hb hts in_X0 tyX0 tyX0_ok nmX0 hown hK hP (hDD _) hS 3 rfl rfl 1 (by decide) (hts _ kf_X4_127) (fun _ h9 => h9) rfl (by decide +kernel) rfl rfl (Nat.le_of_ble_eq_true rfl) dX4_clear_13 (fun H locs hP _ hS => ?_)
  have hP : va_P D vwCl (cW ad cA (σ.1, σ.2.1, ((sKp σ), 0), σ.2.2.2.1, σ.2.2.2.2)) H := hP
  refine lv_iload_n hx hb dX4_clear_16 rfl (lv_at hl 0 rfl) ?_
  exact rt_i (v := (nI (sBc σ))) (u := (σ.1, σ.2.1, ((sKp σ), 0), σ.2.2.2.1, σ.2.2.2.2)) hx hb hr hlocks hS hP (⟨rfl, rfl⟩) dX4_clear_17
set_option maxHeartbeats 4000000 in
set_option maxRecDepth 100000 in
theorem c_X4_alarms (l : Launch) (D : va_G) (cA : ClassId) (ad : Nat → Nat) (A : Nat → Prop) (hDD : ∀ u, va_D A (cW ad cA u)) (σ : CS) (hI : Inv σ) (hg : sGr σ = 0) (hb9 : sBc σ ≤ 1000000000) : Ct l D cA (cW ad cA) A yX4_alarms cX4_alarms 1 (some .int) 0 0 [.ref (ad 0)] σ (fun r u => r = sAl σ ∧ u = σ) := by
  refine Ct.of (by decide) (Nat.le_of_ble_eq_true rfl) ?_
  intro p e s m below meth c ls S0 hr hlocks hK hP hS hl
  obtain ⟨hx, hb, hml, hown, hts⟩ := id S0
  have hl : lv_has ls 1 [(0, .ref (ad 0))] := hl
  have hkc := hI.kc
  have hvc := hI.vc
  have hgc := hI.gr
  have htc := hI.tc
  refine lv_aload_n hx hb dX4_alarms_0 rfl (lv_at hl 0 rfl) ?_
  refine va_get (D := D) (ci := 4) (v := .int (sAl σ)) (C := RX4) (T := TX4) (N := 7) hx hb hts in_X4 hown hK hP 0 rfl rfl 6 (by decide) (hts _ kf_X4_45) (fun _ h9 => h9) rfl dX4_alarms_1 ?_
  exact rt_i (v := (sAl σ)) (u := σ) hx hb hr hlocks hS hP (⟨rfl, rfl⟩) dX4_alarms_4
set_option maxHeartbeats 4000000 in
set_option maxRecDepth 100000 in
theorem c_X4_orders (l : Launch) (D : va_G) (cA : ClassId) (ad : Nat → Nat) (A : Nat → Prop) (hDD : ∀ u, va_D A (cW ad cA u)) (σ : CS) (hI : Inv σ) (hg : sGr σ = 0) (hb9 : sBc σ ≤ 1000000000) : Ct l D cA (cW ad cA) A yX4_orders cX4_orders 1 (some .int) 0 0 [.ref (ad 0)] σ (fun r u => r = nI (sTc σ) ∧ u = σ) := by
  refine Ct.of (by decide) (Nat.le_of_ble_eq_true rfl) ?_
  intro p e s m below meth c ls S0 hr hlocks hK hP hS hl
  obtain ⟨hx, hb, hml, hown, hts⟩ := id S0
  have hl : lv_has ls 1 [(0, .ref (ad 0))] := hl
  have hkc := hI.kc
  have hvc := hI.vc
  have hgc := hI.gr
  have htc := hI.tc
  refine lv_aload_n hx hb dX4_orders_0 rfl (lv_at hl 0 rfl) ?_
  refine va_get (D := D) (ci := 4) (v := .ref (ad 4)) (C := RX4) (T := TX4) (N := 7) hx hb hts in_X4 hown hK hP 0 rfl rfl 3 (by decide) (hts _ kf_X4_33) (fun _ h9 => h9) rfl dX4_orders_1 ?_
  refine va_get (D := D) (ci := 2) (v := .int (nI (sTc σ))) (C := RX2) (T := TX2) (N := 5) hx hb hts in_X2 hown hK hP 4 rfl rfl 4 (by decide) (hts _ kf_X4_121) (fun _ h9 => h9) rfl dX4_orders_4 ?_
  exact rt_i (v := (nI (sTc σ))) (u := σ) hx hb hr hlocks hS hP (⟨rfl, rfl⟩) dX4_orders_7
set_option maxHeartbeats 4000000 in
set_option maxRecDepth 100000 in
theorem c_X4_entry (l : Launch) (D : va_G) (cA : ClassId) (ad : Nat → Nat) (A : Nat → Prop) (hDD : ∀ u, va_D A (cW ad cA u)) (σ : CS) (x : Int32) (hI : Inv σ) (hg : sGr σ = 0) (hb9 : sBc σ ≤ 1000000000) : Ct l D cA (cW ad cA) A yX4_entry cX4_entry 2 (some .int) 1 21 [.ref (ad 0), .int x] σ (fun r u => r = f_entry σ x ∧ u = σ) := by
  refine Ct.of (by decide) (Nat.le_of_ble_eq_true rfl) ?_
  intro p e s m below meth c ls S0 hr hlocks hK hP hS hl
  obtain ⟨hx, hb, hml, hown, hts⟩ := id S0
  have hl : lv_has ls 2 [(0, .ref (ad 0)), (1, .int x)] := hl
  have hkc := hI.kc
  have hvc := hI.vc
  have hgc := hI.gr
  have htc := hI.tc
  refine lv_aload_n hx hb dX4_entry_0 rfl (lv_at hl 0 rfl) ?_
  refine va_get (D := D) (ci := 4) (v := .ref (ad 3)) (C := RX4) (T := TX4) (N := 7) hx hb hts in_X4 hown hK hP 0 rfl rfl 2 (by decide) (hts _ kf_X4_26) (fun _ h9 => h9) rfl dX4_entry_1 ?_
  refine lv_iload_n hx hb dX4_entry_4 rfl (lv_at hl 1 rfl) ?_
  refine cl_i (rest := []) (c_X0_read l D cA ad A hDD σ x (by omega)) ⟨hx, hb, hml, hown, hts⟩ hK hP hS kv_X4_128 ⟨Nat.le_of_ble_eq_true rfl, Nat.le_of_ble_eq_true rfl⟩ ⟨Nat.zero_le _, Nat.zero_le _⟩ 3 rfl rfl rfl hl.1 rfl (Nat.le_of_ble_eq_true rfl) (fun q h => h) dX4_entry_5 (fun r u H locs hw hP hS _ => ?_)
  rw [hw.2] at hP
  refine tp_i (z := (f_entry σ x)) hw.1 ?_
  exact rt_i (v := (f_entry σ x)) (u := σ) hx hb hr hlocks hS hP (⟨rfl, rfl⟩) dX4_entry_8
set_option maxHeartbeats 4000000 in
set_option maxRecDepth 100000 in
theorem c_X4_hung (l : Launch) (D : va_G) (cA : ClassId) (ad : Nat → Nat) (A : Nat → Prop) (hDD : ∀ u, va_D A (cW ad cA u)) (σ : CS) (v h : Int32) (hI : Inv σ) (hg : sGr σ = 0) (hb9 : sBc σ ≤ 1000000000) : Ct l D cA (cW ad cA) A yX4_hung cX4_hung 3 (some .int) 2 43 [.ref (ad 0), .int v, .int h] σ (fun r u => r = f_hung σ v h ∧ u = σ) := by
  refine Ct.of (by decide) (Nat.le_of_ble_eq_true rfl) ?_
  intro p e s m below meth c ls S0 hr hlocks hK hP hS hl
  obtain ⟨hx, hb, hml, hown, hts⟩ := id S0
  have hl : lv_has ls 3 [(0, .ref (ad 0)), (1, .int v), (2, .int h)] := hl
  have hkc := hI.kc
  have hvc := hI.vc
  have hgc := hI.gr
  have htc := hI.tc
  rcases ix_cases (n := sVc σ) v (by omega) with h0 | ⟨j, hj, rfl⟩
  · refine lv_aload_n hx hb dX4_hung_0 rfl (lv_at hl 0 rfl) ?_
    refine va_get (D := D) (ci := 4) (v := .ref (ad 2)) (C := RX4) (T := TX4) (N := 7) hx hb hts in_X4 hown hK hP 0 rfl rfl 1 (by decide) (hts _ kf_X4_19) (fun _ h9 => h9) rfl dX4_hung_1 ?_
    refine lv_iload_n hx hb dX4_hung_4 rfl (lv_at hl 1 rfl) ?_
    refine lv_iload_n hx hb dX4_hung_5 rfl (lv_at hl 2 rfl) ?_
    refine cl_i (rest := []) (c_X3_hasHand l D cA ad A hDD σ v h hvc) ⟨hx, hb, hml, hown, hts⟩ hK hP hS kv_X4_60 ⟨Nat.le_of_ble_eq_true rfl, Nat.le_of_ble_eq_true rfl⟩ ⟨Nat.zero_le _, Nat.zero_le _⟩ 2 rfl rfl rfl hl.1 rfl (Nat.le_of_ble_eq_true rfl) (fun q h => h) dX4_hung_6 (fun r u H locs hw hP hS _ => ?_)
    rw [hw.2] at hP
    refine tp_i (z := (bz ((ix (sVc σ) v).isSome = true ∧ okh h))) hw.1 ?_
    refine tp_i (z := 0) (bz_0 (fun q => ix_none_s h0 q.1)) ?_
    refine lv_if_eq (tgt := 24) hx hb dX4_hung_9 (by decide) (fun _ => ?_) (fun c9 => absurd (by decide) c9)
    refine lv_bipush (v := (-2)) hx hb dX4_hung_24 (by decide) ?_
    exact rt_i (v := (-2)) (u := σ) hx hb hr hlocks hS hP (⟨(hung_n h0).symm, rfl⟩) dX4_hung_26
  · have h0 := ix_nI hj (n := sVc σ) (by omega)
    refine lv_aload_n hx hb dX4_hung_0 rfl (lv_at hl 0 rfl) ?_
    by_cases hh : okh h
    · skip
      refine va_get (D := D) (ci := 4) (v := .ref (ad 2)) (C := RX4) (T := TX4) (N := 7) hx hb hts in_X4 hown hK hP 0 rfl rfl 1 (by decide) (hts _ kf_X4_19) (fun _ h9 => h9) rfl dX4_hung_1 ?_
      refine lv_iload_n hx hb dX4_hung_4 rfl (lv_at hl 1 rfl) ?_
      refine lv_iload_n hx hb dX4_hung_5 rfl (lv_at hl 2 rfl) ?_
      refine cl_i (rest := []) (c_X3_hasHand l D cA ad A hDD σ (nI j) h hvc) ⟨hx, hb, hml, hown, hts⟩ hK hP hS kv_X4_60 ⟨Nat.le_of_ble_eq_true rfl, Nat.le_of_ble_eq_true rfl⟩ ⟨Nat.zero_le _, Nat.zero_le _⟩ 2 rfl rfl rfl hl.1 rfl (Nat.le_of_ble_eq_true rfl) (fun q h => h) dX4_hung_6 (fun r u H locs hw hP hS _ => ?_)
      rw [hw.2] at hP
      refine tp_i (z := (bz ((ix (sVc σ) (nI j)).isSome = true ∧ okh h))) hw.1 ?_
      refine tp_i (z := 1) (bz_1 ⟨ix_some_s h0, hh⟩) ?_
      refine lv_if_eq (tgt := 24) hx hb dX4_hung_9 (by decide) (fun c9 => absurd c9 (by decide)) (fun _ => ?_)
      refine lv_aload_n hx hb dX4_hung_12 rfl (lv_at hl 0 rfl) ?_
      refine va_get (D := D) (ci := 4) (v := .ref (ad 2)) (C := RX4) (T := TX4) (N := 7) hx hb hts in_X4 hown hK hP 0 rfl rfl 1 (by decide) (hts _ kf_X4_19) (fun _ h9 => h9) rfl dX4_hung_13 ?_
      refine lv_iload_n hx hb dX4_hung_16 rfl (lv_at hl 1 rfl) ?_
      refine lv_iload_n hx hb dX4_hung_17 rfl (lv_at hl 2 rfl) ?_
      refine cl_i (rest := []) (c_X3_keyAt l D cA ad A hDD σ j h hj hvc) ⟨hx, hb, hml, hown, hts⟩ hK hP hS kv_X4_68 ⟨Nat.le_of_ble_eq_true rfl, Nat.le_of_ble_eq_true rfl⟩ ⟨Nat.zero_le _, Nat.zero_le _⟩ 2 rfl rfl rfl hl.1 rfl (Nat.le_of_ble_eq_true rfl) (fun q h => h) dX4_hung_18 (fun r u H locs hw hP hS _ => ?_)
      rw [hw.2] at hP
      refine tp_i (z := (hd σ j h)) hw.1 ?_
      refine lv_goto (tgt := 26) hx hb dX4_hung_21 (by decide) ?_
      exact rt_i (v := (hd σ j h)) (u := σ) hx hb hr hlocks hS hP (⟨(hung_s h0 hh).symm, rfl⟩) dX4_hung_26
    · skip
      refine va_get (D := D) (ci := 4) (v := .ref (ad 2)) (C := RX4) (T := TX4) (N := 7) hx hb hts in_X4 hown hK hP 0 rfl rfl 1 (by decide) (hts _ kf_X4_19) (fun _ h9 => h9) rfl dX4_hung_1 ?_
      refine lv_iload_n hx hb dX4_hung_4 rfl (lv_at hl 1 rfl) ?_
      refine lv_iload_n hx hb dX4_hung_5 rfl (lv_at hl 2 rfl) ?_
      refine cl_i (rest := []) (c_X3_hasHand l D cA ad A hDD σ (nI j) h hvc) ⟨hx, hb, hml, hown, hts⟩ hK hP hS kv_X4_60 ⟨Nat.le_of_ble_eq_true rfl, Nat.le_of_ble_eq_true rfl⟩ ⟨Nat.zero_le _, Nat.zero_le _⟩ 2 rfl rfl rfl hl.1 rfl (Nat.le_of_ble_eq_true rfl) (fun q h => h) dX4_hung_6 (fun r u H locs hw hP hS _ => ?_)
      rw [hw.2] at hP
      refine tp_i (z := (bz ((ix (sVc σ) (nI j)).isSome = true ∧ okh h))) hw.1 ?_
      refine tp_i (z := 0) (bz_0 (fun q => hh q.2)) ?_
      refine lv_if_eq (tgt := 24) hx hb dX4_hung_9 (by decide) (fun _ => ?_) (fun c9 => absurd (by decide) c9)
      refine lv_bipush (v := (-2)) hx hb dX4_hung_24 (by decide) ?_
      exact rt_i (v := (-2)) (u := σ) hx hb hr hlocks hS hP (⟨(hung_b h0 hh).symm, rfl⟩) dX4_hung_26
set_option maxHeartbeats 4000000 in
set_option maxRecDepth 100000 in
theorem c_X4_isOrder (l : Launch) (D : va_G) (cA : ClassId) (ad : Nat → Nat) (A : Nat → Prop) (hDD : ∀ u, va_D A (cW ad cA u)) (σ : CS) (o v w n : Int32) (hI : Inv σ) : Ct l D cA (cW ad cA) A yX4_isOrder cX4_isOrder 5 (some .boolean) 2 42 [.ref (ad 0), .int o, .int v, .int w, .int n] σ (fun r u => r = bz (isO σ o v w n) ∧ u = σ) := by
  refine Ct.of (by decide) (Nat.le_of_ble_eq_true rfl) ?_
  intro p e s m below meth c ls S0 hr hlocks hK hP hS hl
  obtain ⟨hx, hb, hml, hown, hts⟩ := id S0
  have hl : lv_has ls 5 [(0, .ref (ad 0)), (1, .int o), (2, .int v), (3, .int w), (4, .int n)] := hl
  have hkc := hI.kc
  have hvc := hI.vc
  have hgc := hI.gr
  have htc := hI.tc
  rcases o5 o with rfl | rfl | rfl | rfl | rfl | ho
  · skip
    refine lv_iload_n hx hb dX4_isOrder_0 rfl (lv_at hl 1 rfl) ?_
    refine lv_tableIn (x := 0) (off := 35) (tgt := 36) hx hb dX4_isOrder_1 (by decide) (by decide) (by decide) (by decide) ?_
    rcases ix_cases (n := sVc σ) v (by omega) with h0 | ⟨j, hj, rfl⟩
    · refine lv_aload_n hx hb dX4_isOrder_36 rfl (lv_at hl 0 rfl) ?_
      refine va_get (D := D) (ci := 4) (v := .ref (ad 2)) (C := RX4) (T := TX4) (N := 7) hx hb hts in_X4 hown hK hP 0 rfl rfl 1 (by decide) (hts _ kf_X4_19) (fun _ h9 => h9) rfl dX4_isOrder_37 ?_
      refine lv_iload_n hx hb dX4_isOrder_40 rfl (lv_at hl 2 rfl) ?_
      refine cl_i (rest := []) (c_X3_has l D cA ad A hDD σ v ) ⟨hx, hb, hml, hown, hts⟩ hK hP hS kv_X4_75 ⟨Nat.le_of_ble_eq_true rfl, Nat.le_of_ble_eq_true rfl⟩ ⟨Nat.zero_le _, Nat.zero_le _⟩ 2 rfl rfl rfl hl.1 rfl (Nat.le_of_ble_eq_true rfl) (fun q h => h) dX4_isOrder_41 (fun r u H locs hw hP hS _ => ?_)
      rw [hw.2] at hP
      refine tp_i (z := (hz (sVc σ) v)) hw.1 ?_
      refine tp_i (z := 0) (hz_0 h0) ?_
      refine lv_if_eq (tgt := 59) hx hb dX4_isOrder_44 (by decide) (fun _ => ?_) (fun c9 => absurd (by decide) c9)
      refine lv_iconst (v := 0) hx hb dX4_isOrder_59 (by decide) ?_
      exact rt_z (v := 0) (u := σ) hx hb hr hlocks rfl hS hP (⟨(bz_0 (fun q => ix_none_s h0 (isO_v q (by decide)))).symm, rfl⟩) dX4_isOrder_60
    · have h0 := ix_nI hj (n := sVc σ) (by omega)
      refine lv_aload_n hx hb dX4_isOrder_36 rfl (lv_at hl 0 rfl) ?_
      refine va_get (D := D) (ci := 4) (v := .ref (ad 2)) (C := RX4) (T := TX4) (N := 7) hx hb hts in_X4 hown hK hP 0 rfl rfl 1 (by decide) (hts _ kf_X4_19) (fun _ h9 => h9) rfl dX4_isOrder_37 ?_
      refine lv_iload_n hx hb dX4_isOrder_40 rfl (lv_at hl 2 rfl) ?_
      refine cl_i (rest := []) (c_X3_has l D cA ad A hDD σ (nI j) ) ⟨hx, hb, hml, hown, hts⟩ hK hP hS kv_X4_75 ⟨Nat.le_of_ble_eq_true rfl, Nat.le_of_ble_eq_true rfl⟩ ⟨Nat.zero_le _, Nat.zero_le _⟩ 2 rfl rfl rfl hl.1 rfl (Nat.le_of_ble_eq_true rfl) (fun q h => h) dX4_isOrder_41 (fun r u H locs hw hP hS _ => ?_)
      rw [hw.2] at hP
      refine tp_i (z := (hz (sVc σ) (nI j))) hw.1 ?_
      refine tp_i (z := 1) (hz_1 h0) ?_
      refine lv_if_eq (tgt := 59) hx hb dX4_isOrder_44 (by decide) (fun c9 => absurd c9 (by decide)) (fun _ => ?_)
      by_cases hn : amt n
      · skip
        refine lv_iload hx hb dX4_isOrder_47 (lv_at hl 4 rfl) ?_
        refine cl_s (rest := []) (c_X4_isAmount l D cA ad A hDD σ n ) ⟨hx, hb, hml, hown, hts⟩ hK hP hS kv_X4_79 ⟨Nat.le_of_ble_eq_true rfl, Nat.le_of_ble_eq_true rfl⟩ ⟨Nat.zero_le _, Nat.zero_le _⟩ rfl hl.1 rfl (Nat.le_of_ble_eq_true rfl) (fun q h => h) dX4_isOrder_49 (fun r u H locs hw hP hS => ?_)
        rw [hw.2] at hP
        refine tp_i (z := (bz (amt n))) hw.1 ?_
        refine tp_i (z := 1) (bz_1 hn) ?_
        refine lv_if_eq (tgt := 59) hx hb dX4_isOrder_52 (by decide) (fun c9 => absurd c9 (by decide)) (fun _ => ?_)
        refine lv_iconst (v := 1) hx hb dX4_isOrder_55 (by decide) ?_
        refine lv_goto (tgt := 60) hx hb dX4_isOrder_56 (by decide) ?_
        exact rt_z (v := 1) (u := σ) hx hb hr hlocks rfl hS hP (⟨(bz_1 (Or.inl ⟨Or.inl rfl, ix_some_s h0, hn⟩)).symm, rfl⟩) dX4_isOrder_60
      · skip
        refine lv_iload hx hb dX4_isOrder_47 (lv_at hl 4 rfl) ?_
        refine cl_s (rest := []) (c_X4_isAmount l D cA ad A hDD σ n ) ⟨hx, hb, hml, hown, hts⟩ hK hP hS kv_X4_79 ⟨Nat.le_of_ble_eq_true rfl, Nat.le_of_ble_eq_true rfl⟩ ⟨Nat.zero_le _, Nat.zero_le _⟩ rfl hl.1 rfl (Nat.le_of_ble_eq_true rfl) (fun q h => h) dX4_isOrder_49 (fun r u H locs hw hP hS => ?_)
        rw [hw.2] at hP
        refine tp_i (z := (bz (amt n))) hw.1 ?_
        refine tp_i (z := 0) (bz_0 hn) ?_
        refine lv_if_eq (tgt := 59) hx hb dX4_isOrder_52 (by decide) (fun _ => ?_) (fun c9 => absurd (by decide) c9)
        refine lv_iconst (v := 0) hx hb dX4_isOrder_59 (by decide) ?_
        exact rt_z (v := 0) (u := σ) hx hb hr hlocks rfl hS hP (⟨(bz_0 (fun q => hn (isO_n q (by decide) (by decide)))).symm, rfl⟩) dX4_isOrder_60
  · skip
    refine lv_iload_n hx hb dX4_isOrder_0 rfl (lv_at hl 1 rfl) ?_
    refine lv_tableIn (x := 1) (off := 35) (tgt := 36) hx hb dX4_isOrder_1 (by decide) (by decide) (by decide) (by decide) ?_
    rcases ix_cases (n := sVc σ) v (by omega) with h0 | ⟨j, hj, rfl⟩
    · refine lv_aload_n hx hb dX4_isOrder_36 rfl (lv_at hl 0 rfl) ?_
      refine va_get (D := D) (ci := 4) (v := .ref (ad 2)) (C := RX4) (T := TX4) (N := 7) hx hb hts in_X4 hown hK hP 0 rfl rfl 1 (by decide) (hts _ kf_X4_19) (fun _ h9 => h9) rfl dX4_isOrder_37 ?_
      refine lv_iload_n hx hb dX4_isOrder_40 rfl (lv_at hl 2 rfl) ?_
      refine cl_i (rest := []) (c_X3_has l D cA ad A hDD σ v ) ⟨hx, hb, hml, hown, hts⟩ hK hP hS kv_X4_75 ⟨Nat.le_of_ble_eq_true rfl, Nat.le_of_ble_eq_true rfl⟩ ⟨Nat.zero_le _, Nat.zero_le _⟩ 2 rfl rfl rfl hl.1 rfl (Nat.le_of_ble_eq_true rfl) (fun q h => h) dX4_isOrder_41 (fun r u H locs hw hP hS _ => ?_)
      rw [hw.2] at hP
      refine tp_i (z := (hz (sVc σ) v)) hw.1 ?_
      refine tp_i (z := 0) (hz_0 h0) ?_
      refine lv_if_eq (tgt := 59) hx hb dX4_isOrder_44 (by decide) (fun _ => ?_) (fun c9 => absurd (by decide) c9)
      refine lv_iconst (v := 0) hx hb dX4_isOrder_59 (by decide) ?_
      exact rt_z (v := 0) (u := σ) hx hb hr hlocks rfl hS hP (⟨(bz_0 (fun q => ix_none_s h0 (isO_v q (by decide)))).symm, rfl⟩) dX4_isOrder_60
    · have h0 := ix_nI hj (n := sVc σ) (by omega)
      refine lv_aload_n hx hb dX4_isOrder_36 rfl (lv_at hl 0 rfl) ?_
      refine va_get (D := D) (ci := 4) (v := .ref (ad 2)) (C := RX4) (T := TX4) (N := 7) hx hb hts in_X4 hown hK hP 0 rfl rfl 1 (by decide) (hts _ kf_X4_19) (fun _ h9 => h9) rfl dX4_isOrder_37 ?_
      refine lv_iload_n hx hb dX4_isOrder_40 rfl (lv_at hl 2 rfl) ?_
      refine cl_i (rest := []) (c_X3_has l D cA ad A hDD σ (nI j) ) ⟨hx, hb, hml, hown, hts⟩ hK hP hS kv_X4_75 ⟨Nat.le_of_ble_eq_true rfl, Nat.le_of_ble_eq_true rfl⟩ ⟨Nat.zero_le _, Nat.zero_le _⟩ 2 rfl rfl rfl hl.1 rfl (Nat.le_of_ble_eq_true rfl) (fun q h => h) dX4_isOrder_41 (fun r u H locs hw hP hS _ => ?_)
      rw [hw.2] at hP
      refine tp_i (z := (hz (sVc σ) (nI j))) hw.1 ?_
      refine tp_i (z := 1) (hz_1 h0) ?_
      refine lv_if_eq (tgt := 59) hx hb dX4_isOrder_44 (by decide) (fun c9 => absurd c9 (by decide)) (fun _ => ?_)
      by_cases hn : amt n
      · skip
        refine lv_iload hx hb dX4_isOrder_47 (lv_at hl 4 rfl) ?_
        refine cl_s (rest := []) (c_X4_isAmount l D cA ad A hDD σ n ) ⟨hx, hb, hml, hown, hts⟩ hK hP hS kv_X4_79 ⟨Nat.le_of_ble_eq_true rfl, Nat.le_of_ble_eq_true rfl⟩ ⟨Nat.zero_le _, Nat.zero_le _⟩ rfl hl.1 rfl (Nat.le_of_ble_eq_true rfl) (fun q h => h) dX4_isOrder_49 (fun r u H locs hw hP hS => ?_)
        rw [hw.2] at hP
        refine tp_i (z := (bz (amt n))) hw.1 ?_
        refine tp_i (z := 1) (bz_1 hn) ?_
        refine lv_if_eq (tgt := 59) hx hb dX4_isOrder_52 (by decide) (fun c9 => absurd c9 (by decide)) (fun _ => ?_)
        refine lv_iconst (v := 1) hx hb dX4_isOrder_55 (by decide) ?_
        refine lv_goto (tgt := 60) hx hb dX4_isOrder_56 (by decide) ?_
        exact rt_z (v := 1) (u := σ) hx hb hr hlocks rfl hS hP (⟨(bz_1 (Or.inl ⟨Or.inr rfl, ix_some_s h0, hn⟩)).symm, rfl⟩) dX4_isOrder_60
      · skip
        refine lv_iload hx hb dX4_isOrder_47 (lv_at hl 4 rfl) ?_
        refine cl_s (rest := []) (c_X4_isAmount l D cA ad A hDD σ n ) ⟨hx, hb, hml, hown, hts⟩ hK hP hS kv_X4_79 ⟨Nat.le_of_ble_eq_true rfl, Nat.le_of_ble_eq_true rfl⟩ ⟨Nat.zero_le _, Nat.zero_le _⟩ rfl hl.1 rfl (Nat.le_of_ble_eq_true rfl) (fun q h => h) dX4_isOrder_49 (fun r u H locs hw hP hS => ?_)
        rw [hw.2] at hP
        refine tp_i (z := (bz (amt n))) hw.1 ?_
        refine tp_i (z := 0) (bz_0 hn) ?_
        refine lv_if_eq (tgt := 59) hx hb dX4_isOrder_52 (by decide) (fun _ => ?_) (fun c9 => absurd (by decide) c9)
        refine lv_iconst (v := 0) hx hb dX4_isOrder_59 (by decide) ?_
        exact rt_z (v := 0) (u := σ) hx hb hr hlocks rfl hS hP (⟨(bz_0 (fun q => hn (isO_n q (by decide) (by decide)))).symm, rfl⟩) dX4_isOrder_60
  · skip
    refine lv_iload_n hx hb dX4_isOrder_0 rfl (lv_at hl 1 rfl) ?_
    refine lv_tableIn (x := 2) (off := 60) (tgt := 61) hx hb dX4_isOrder_1 (by decide) (by decide) (by decide) (by decide) ?_
    rcases ix_cases (n := sVc σ) v (by omega) with h0 | ⟨j, hj, rfl⟩
    · refine lv_aload_n hx hb dX4_isOrder_61 rfl (lv_at hl 0 rfl) ?_
      refine va_get (D := D) (ci := 4) (v := .ref (ad 2)) (C := RX4) (T := TX4) (N := 7) hx hb hts in_X4 hown hK hP 0 rfl rfl 1 (by decide) (hts _ kf_X4_19) (fun _ h9 => h9) rfl dX4_isOrder_62 ?_
      refine lv_iload_n hx hb dX4_isOrder_65 rfl (lv_at hl 2 rfl) ?_
      refine cl_i (rest := []) (c_X3_has l D cA ad A hDD σ v ) ⟨hx, hb, hml, hown, hts⟩ hK hP hS kv_X4_75 ⟨Nat.le_of_ble_eq_true rfl, Nat.le_of_ble_eq_true rfl⟩ ⟨Nat.zero_le _, Nat.zero_le _⟩ 2 rfl rfl rfl hl.1 rfl (Nat.le_of_ble_eq_true rfl) (fun q h => h) dX4_isOrder_66 (fun r u H locs hw hP hS _ => ?_)
      rw [hw.2] at hP
      refine tp_i (z := (hz (sVc σ) v)) hw.1 ?_
      refine tp_i (z := 0) (hz_0 h0) ?_
      refine lv_if_eq (tgt := 95) hx hb dX4_isOrder_69 (by decide) (fun _ => ?_) (fun c9 => absurd (by decide) c9)
      refine lv_iconst (v := 0) hx hb dX4_isOrder_95 (by decide) ?_
      exact rt_z (v := 0) (u := σ) hx hb hr hlocks rfl hS hP (⟨(bz_0 (fun q => ix_none_s h0 (isO_v q (by decide)))).symm, rfl⟩) dX4_isOrder_96
    · have h0 := ix_nI hj (n := sVc σ) (by omega)
      refine lv_aload_n hx hb dX4_isOrder_61 rfl (lv_at hl 0 rfl) ?_
      refine va_get (D := D) (ci := 4) (v := .ref (ad 2)) (C := RX4) (T := TX4) (N := 7) hx hb hts in_X4 hown hK hP 0 rfl rfl 1 (by decide) (hts _ kf_X4_19) (fun _ h9 => h9) rfl dX4_isOrder_62 ?_
      refine lv_iload_n hx hb dX4_isOrder_65 rfl (lv_at hl 2 rfl) ?_
      refine cl_i (rest := []) (c_X3_has l D cA ad A hDD σ (nI j) ) ⟨hx, hb, hml, hown, hts⟩ hK hP hS kv_X4_75 ⟨Nat.le_of_ble_eq_true rfl, Nat.le_of_ble_eq_true rfl⟩ ⟨Nat.zero_le _, Nat.zero_le _⟩ 2 rfl rfl rfl hl.1 rfl (Nat.le_of_ble_eq_true rfl) (fun q h => h) dX4_isOrder_66 (fun r u H locs hw hP hS _ => ?_)
      rw [hw.2] at hP
      refine tp_i (z := (hz (sVc σ) (nI j))) hw.1 ?_
      refine tp_i (z := 1) (hz_1 h0) ?_
      refine lv_if_eq (tgt := 95) hx hb dX4_isOrder_69 (by decide) (fun c9 => absurd c9 (by decide)) (fun _ => ?_)
      rcases ix_cases (n := sVc σ) w (by omega) with hq | ⟨i, hi, rfl⟩
      · refine lv_aload_n hx hb dX4_isOrder_72 rfl (lv_at hl 0 rfl) ?_
        refine va_get (D := D) (ci := 4) (v := .ref (ad 2)) (C := RX4) (T := TX4) (N := 7) hx hb hts in_X4 hown hK hP 0 rfl rfl 1 (by decide) (hts _ kf_X4_19) (fun _ h9 => h9) rfl dX4_isOrder_73 ?_
        refine lv_iload_n hx hb dX4_isOrder_76 rfl (lv_at hl 3 rfl) ?_
        refine cl_i (rest := []) (c_X3_has l D cA ad A hDD σ w ) ⟨hx, hb, hml, hown, hts⟩ hK hP hS kv_X4_75 ⟨Nat.le_of_ble_eq_true rfl, Nat.le_of_ble_eq_true rfl⟩ ⟨Nat.zero_le _, Nat.zero_le _⟩ 2 rfl rfl rfl hl.1 rfl (Nat.le_of_ble_eq_true rfl) (fun q h => h) dX4_isOrder_77 (fun r u H locs hw hP hS _ => ?_)
        rw [hw.2] at hP
        refine tp_i (z := (hz (sVc σ) w)) hw.1 ?_
        refine tp_i (z := 0) (hz_0 hq) ?_
        refine lv_if_eq (tgt := 95) hx hb dX4_isOrder_80 (by decide) (fun _ => ?_) (fun c9 => absurd (by decide) c9)
        refine lv_iconst (v := 0) hx hb dX4_isOrder_95 (by decide) ?_
        exact rt_z (v := 0) (u := σ) hx hb hr hlocks rfl hS hP (⟨(bz_0 (fun q => ix_none_s hq (isO_w q))).symm, rfl⟩) dX4_isOrder_96
      · have hq := ix_nI hi (n := sVc σ) (by omega)
        refine lv_aload_n hx hb dX4_isOrder_72 rfl (lv_at hl 0 rfl) ?_
        refine va_get (D := D) (ci := 4) (v := .ref (ad 2)) (C := RX4) (T := TX4) (N := 7) hx hb hts in_X4 hown hK hP 0 rfl rfl 1 (by decide) (hts _ kf_X4_19) (fun _ h9 => h9) rfl dX4_isOrder_73 ?_
        refine lv_iload_n hx hb dX4_isOrder_76 rfl (lv_at hl 3 rfl) ?_
        refine cl_i (rest := []) (c_X3_has l D cA ad A hDD σ (nI i) ) ⟨hx, hb, hml, hown, hts⟩ hK hP hS kv_X4_75 ⟨Nat.le_of_ble_eq_true rfl, Nat.le_of_ble_eq_true rfl⟩ ⟨Nat.zero_le _, Nat.zero_le _⟩ 2 rfl rfl rfl hl.1 rfl (Nat.le_of_ble_eq_true rfl) (fun q h => h) dX4_isOrder_77 (fun r u H locs hw hP hS _ => ?_)
        rw [hw.2] at hP
        refine tp_i (z := (hz (sVc σ) (nI i))) hw.1 ?_
        refine tp_i (z := 1) (hz_1 hq) ?_
        refine lv_if_eq (tgt := 95) hx hb dX4_isOrder_80 (by decide) (fun c9 => absurd c9 (by decide)) (fun _ => ?_)
        by_cases hn : amt n
        · skip
          refine lv_iload hx hb dX4_isOrder_83 (lv_at hl 4 rfl) ?_
          refine cl_s (rest := []) (c_X4_isAmount l D cA ad A hDD σ n ) ⟨hx, hb, hml, hown, hts⟩ hK hP hS kv_X4_79 ⟨Nat.le_of_ble_eq_true rfl, Nat.le_of_ble_eq_true rfl⟩ ⟨Nat.zero_le _, Nat.zero_le _⟩ rfl hl.1 rfl (Nat.le_of_ble_eq_true rfl) (fun q h => h) dX4_isOrder_85 (fun r u H locs hw hP hS => ?_)
          rw [hw.2] at hP
          refine tp_i (z := (bz (amt n))) hw.1 ?_
          refine tp_i (z := 1) (bz_1 hn) ?_
          refine lv_if_eq (tgt := 95) hx hb dX4_isOrder_88 (by decide) (fun c9 => absurd c9 (by decide)) (fun _ => ?_)
          refine lv_iconst (v := 1) hx hb dX4_isOrder_91 (by decide) ?_
          refine lv_goto (tgt := 96) hx hb dX4_isOrder_92 (by decide) ?_
          exact rt_z (v := 1) (u := σ) hx hb hr hlocks rfl hS hP (⟨(bz_1 (Or.inr (Or.inl ⟨rfl, ix_some_s h0, ix_some_s hq, hn⟩))).symm, rfl⟩) dX4_isOrder_96
        · skip
          refine lv_iload hx hb dX4_isOrder_83 (lv_at hl 4 rfl) ?_
          refine cl_s (rest := []) (c_X4_isAmount l D cA ad A hDD σ n ) ⟨hx, hb, hml, hown, hts⟩ hK hP hS kv_X4_79 ⟨Nat.le_of_ble_eq_true rfl, Nat.le_of_ble_eq_true rfl⟩ ⟨Nat.zero_le _, Nat.zero_le _⟩ rfl hl.1 rfl (Nat.le_of_ble_eq_true rfl) (fun q h => h) dX4_isOrder_85 (fun r u H locs hw hP hS => ?_)
          rw [hw.2] at hP
          refine tp_i (z := (bz (amt n))) hw.1 ?_
          refine tp_i (z := 0) (bz_0 hn) ?_
          refine lv_if_eq (tgt := 95) hx hb dX4_isOrder_88 (by decide) (fun _ => ?_) (fun c9 => absurd (by decide) c9)
          refine lv_iconst (v := 0) hx hb dX4_isOrder_95 (by decide) ?_
          exact rt_z (v := 0) (u := σ) hx hb hr hlocks rfl hS hP (⟨(bz_0 (fun q => hn (isO_n q (by decide) (by decide)))).symm, rfl⟩) dX4_isOrder_96
  · skip
    refine lv_iload_n hx hb dX4_isOrder_0 rfl (lv_at hl 1 rfl) ?_
    refine lv_tableIn (x := 3) (off := 96) (tgt := 97) hx hb dX4_isOrder_1 (by decide) (by decide) (by decide) (by decide) ?_
    rcases ix_cases (n := sVc σ) v (by omega) with h0 | ⟨j, hj, rfl⟩
    · refine lv_aload_n hx hb dX4_isOrder_97 rfl (lv_at hl 0 rfl) ?_
      refine va_get (D := D) (ci := 4) (v := .ref (ad 2)) (C := RX4) (T := TX4) (N := 7) hx hb hts in_X4 hown hK hP 0 rfl rfl 1 (by decide) (hts _ kf_X4_19) (fun _ h9 => h9) rfl dX4_isOrder_98 ?_
      refine lv_iload_n hx hb dX4_isOrder_101 rfl (lv_at hl 2 rfl) ?_
      refine cl_i (rest := []) (c_X3_has l D cA ad A hDD σ v ) ⟨hx, hb, hml, hown, hts⟩ hK hP hS kv_X4_75 ⟨Nat.le_of_ble_eq_true rfl, Nat.le_of_ble_eq_true rfl⟩ ⟨Nat.zero_le _, Nat.zero_le _⟩ 2 rfl rfl rfl hl.1 rfl (Nat.le_of_ble_eq_true rfl) (fun q h => h) dX4_isOrder_102 (fun r u H locs hw hP hS _ => ?_)
      rw [hw.2] at hP
      refine tp_i (z := (hz (sVc σ) v)) hw.1 ?_
      refine tp_i (z := 0) (hz_0 h0) ?_
      exact rt_z (v := 0) (u := σ) hx hb hr hlocks rfl hS hP (⟨(bz_0 (fun q => ix_none_s h0 (isO_v q (by decide)))).symm, rfl⟩) dX4_isOrder_105
    · have h0 := ix_nI hj (n := sVc σ) (by omega)
      refine lv_aload_n hx hb dX4_isOrder_97 rfl (lv_at hl 0 rfl) ?_
      refine va_get (D := D) (ci := 4) (v := .ref (ad 2)) (C := RX4) (T := TX4) (N := 7) hx hb hts in_X4 hown hK hP 0 rfl rfl 1 (by decide) (hts _ kf_X4_19) (fun _ h9 => h9) rfl dX4_isOrder_98 ?_
      refine lv_iload_n hx hb dX4_isOrder_101 rfl (lv_at hl 2 rfl) ?_
      refine cl_i (rest := []) (c_X3_has l D cA ad A hDD σ (nI j) ) ⟨hx, hb, hml, hown, hts⟩ hK hP hS kv_X4_75 ⟨Nat.le_of_ble_eq_true rfl, Nat.le_of_ble_eq_true rfl⟩ ⟨Nat.zero_le _, Nat.zero_le _⟩ 2 rfl rfl rfl hl.1 rfl (Nat.le_of_ble_eq_true rfl) (fun q h => h) dX4_isOrder_102 (fun r u H locs hw hP hS _ => ?_)
      rw [hw.2] at hP
      refine tp_i (z := (hz (sVc σ) (nI j))) hw.1 ?_
      refine tp_i (z := 1) (hz_1 h0) ?_
      exact rt_z (v := 1) (u := σ) hx hb hr hlocks rfl hS hP (⟨(bz_1 (Or.inr (Or.inr (Or.inl ⟨rfl, ix_some_s h0⟩)))).symm, rfl⟩) dX4_isOrder_105
  · skip
    refine lv_iload_n hx hb dX4_isOrder_0 rfl (lv_at hl 1 rfl) ?_
    refine lv_tableIn (x := 4) (off := 105) (tgt := 106) hx hb dX4_isOrder_1 (by decide) (by decide) (by decide) (by decide) ?_
    refine lv_iconst (v := 1) hx hb dX4_isOrder_106 (by decide) ?_
    exact rt_z (v := 1) (u := σ) hx hb hr hlocks rfl hS hP (⟨(bz_1 (Or.inr (Or.inr (Or.inr rfl)))).symm, rfl⟩) dX4_isOrder_107
  · skip
    refine lv_iload_n hx hb dX4_isOrder_0 rfl (lv_at hl 1 rfl) ?_
    refine lv_tableOut (tgt := 108) hx hb dX4_isOrder_1 ho (by decide) ?_
    refine lv_iconst (v := 0) hx hb dX4_isOrder_108 (by decide) ?_
    exact rt_z (v := 0) (u := σ) hx hb hr hlocks rfl hS hP (⟨(bz_0 (isO_out ho)).symm, rfl⟩) dX4_isOrder_109
set_option maxHeartbeats 4000000 in
set_option maxRecDepth 100000 in
theorem c_X4_order (l : Launch) (D : va_G) (cA : ClassId) (ad : Nat → Nat) (A : Nat → Prop) (hDD : ∀ u, va_D A (cW ad cA u)) (σ : CS) (o v w n : Int32) (hI : Inv σ) (hg : sGr σ = 0) (hb9 : sBc σ ≤ 1000000000) : Ct l D cA (cW ad cA) A yX4_order cX4_order 5 (some .int) 3 66 [.ref (ad 0), .int o, .int v, .int w, .int n] σ (fun r u => r = (f_order σ o v w n).1 ∧ u = (f_order σ o v w n).2) := by
  refine Ct.of (by decide) (Nat.le_of_ble_eq_true rfl) ?_
  intro p e s m below meth c ls S0 hr hlocks hK hP hS hl
  obtain ⟨hx, hb, hml, hown, hts⟩ := id S0
  have hl : lv_has ls 5 [(0, .ref (ad 0)), (1, .int o), (2, .int v), (3, .int w), (4, .int n)] := hl
  have hkc := hI.kc
  have hvc := hI.vc
  have hgc := hI.gr
  have htc := hI.tc
  by_cases hq : isO σ o v w n
  · skip
    refine lv_aload_n hx hb dX4_order_0 rfl (lv_at hl 0 rfl) ?_
    refine lv_iload_n hx hb dX4_order_1 rfl (lv_at hl 1 rfl) ?_
    refine lv_iload_n hx hb dX4_order_2 rfl (lv_at hl 2 rfl) ?_
    refine lv_iload_n hx hb dX4_order_3 rfl (lv_at hl 3 rfl) ?_
    refine lv_iload hx hb dX4_order_4 (lv_at hl 4 rfl) ?_
    refine cl_i (rest := []) (c_X4_isOrder l D cA ad A hDD σ o v w n hI) ⟨hx, hb, hml, hown, hts⟩ hK hP hS kv_X4_114 ⟨Nat.le_of_ble_eq_true rfl, Nat.le_of_ble_eq_true rfl⟩ ⟨Nat.zero_le _, Nat.zero_le _⟩ 0 rfl rfl rfl hl.1 rfl (Nat.le_of_ble_eq_true rfl) (fun q h => h) dX4_order_6 (fun r u H locs hw hP hS _ => ?_)
    rw [hw.2] at hP
    refine tp_i (z := (bz (isO σ o v w n))) hw.1 ?_
    refine tp_i (z := 1) (bz_1 hq) ?_
    refine lv_if_ne (tgt := 15) hx hb dX4_order_9 (by decide) (fun _ => ?_) (fun c9 => absurd c9 (by decide))
    refine lv_aload_n hx hb dX4_order_15 rfl (lv_at hl 0 rfl) ?_
    refine va_get (D := D) (ci := 4) (v := .ref (ad 4)) (C := RX4) (T := TX4) (N := 7) hx hb hts in_X4 hown hK hP 0 rfl rfl 3 (by decide) (hts _ kf_X4_33) (fun _ h9 => h9) rfl dX4_order_16 ?_
    refine lv_iload_n hx hb dX4_order_19 rfl (lv_at hl 1 rfl) ?_
    refine lv_iload_n hx hb dX4_order_20 rfl (lv_at hl 2 rfl) ?_
    refine lv_iload_n hx hb dX4_order_21 rfl (lv_at hl 3 rfl) ?_
    refine lv_iload hx hb dX4_order_22 (lv_at hl 4 rfl) ?_
    refine cl_i (rest := []) (c_X2_add l D cA ad A hDD σ o v w n htc) ⟨hx, hb, hml, hown, hts⟩ hK hP hS kv_X4_118 ⟨Nat.le_of_ble_eq_true rfl, Nat.le_of_ble_eq_true rfl⟩ ⟨Nat.zero_le _, Nat.zero_le _⟩ 4 rfl rfl rfl hl.1 rfl (Nat.le_of_ble_eq_true rfl) (fun q h => h) dX4_order_24 (fun r u H locs hw hP hS _ => ?_)
    rw [hw.2] at hP
    refine tp_i (z := (a_ord σ o v w n).1) hw.1 ?_
    exact rt_i (v := (a_ord σ o v w n).1) (u := (a_ord σ o v w n).2) hx hb hr hlocks hS hP ((by rw [order_a hq]; exact ⟨rfl, rfl⟩)) dX4_order_27
  · skip
    refine lv_aload_n hx hb dX4_order_0 rfl (lv_at hl 0 rfl) ?_
    refine lv_iload_n hx hb dX4_order_1 rfl (lv_at hl 1 rfl) ?_
    refine lv_iload_n hx hb dX4_order_2 rfl (lv_at hl 2 rfl) ?_
    refine lv_iload_n hx hb dX4_order_3 rfl (lv_at hl 3 rfl) ?_
    refine lv_iload hx hb dX4_order_4 (lv_at hl 4 rfl) ?_
    refine cl_i (rest := []) (c_X4_isOrder l D cA ad A hDD σ o v w n hI) ⟨hx, hb, hml, hown, hts⟩ hK hP hS kv_X4_114 ⟨Nat.le_of_ble_eq_true rfl, Nat.le_of_ble_eq_true rfl⟩ ⟨Nat.zero_le _, Nat.zero_le _⟩ 0 rfl rfl rfl hl.1 rfl (Nat.le_of_ble_eq_true rfl) (fun q h => h) dX4_order_6 (fun r u H locs hw hP hS _ => ?_)
    rw [hw.2] at hP
    refine tp_i (z := (bz (isO σ o v w n))) hw.1 ?_
    refine tp_i (z := 0) (bz_0 hq) ?_
    refine lv_if_ne (tgt := 15) hx hb dX4_order_9 (by decide) (fun c9 => absurd (by decide) c9) (fun _ => ?_)
    refine lv_bipush (v := (-2)) hx hb dX4_order_12 (by decide) ?_
    exact rt_i (v := (-2)) (u := σ) hx hb hr hlocks hS hP (pr2 (order_b hq)) dX4_order_14
end
section
set_option maxHeartbeats 4000000 in
set_option maxRecDepth 100000 in
theorem c_X5_key (l : Launch) (D : va_G) (cA : ClassId) (ad : Nat → Nat) (A : Nat → Prop) (hDD : ∀ u, va_D A (rW ad cA u)) (σ : CS) (t mm : Int32) (hI : Inv σ) (hg : sGr σ = 0) (hb9 : sBc σ ≤ 1000000000) : Ct l D cA (rW ad cA) A yX5_key cX5_key 3 (some .int) 0 0 [.ref (ad 0), .int t, .int mm] σ (fun r u => r = (f_key σ t mm).1 ∧ u = (f_key σ t mm).2) := by
  refine Ct.of (by decide) (Nat.le_of_ble_eq_true rfl) ?_
  intro p e s m below meth c ls S0 hr hlocks hK hP hS hl
  obtain ⟨hx, hb, hml, hown, hts⟩ := id S0
  have hl : lv_has ls 3 [(0, .ref (ad 0)), (1, .int t), (2, .int mm)] := hl
  have hkc := hI.kc
  have hvc := hI.vc
  have hgc := hI.gr
  have htc := hI.tc
  refine lv_iload_n hx hb dX5_key_0 rfl (lv_at hl 1 rfl) ?_
  refine lv_iconst (v := 1) hx hb dX5_key_1 (by decide) ?_
  refine lv_icmp_lt (tgt := 11) hx hb dX5_key_2 (by decide) (fun c2 => ?_) (fun c2 => ?_)
  · refine lv_bipush (v := (-2)) hx hb dX5_key_11 (by decide) ?_
    exact rt_i (v := (-2)) (u := σ) hx hb hr hlocks hS hP (pr2 (if_neg (fun q => i_nle.mpr c2 q.1))) dX5_key_13
  · refine lv_iload_n hx hb dX5_key_5 rfl (lv_at hl 1 rfl) ?_
    refine lv_bipush (v := 9) hx hb dX5_key_6 (by decide) ?_
    refine lv_icmp_le (tgt := 14) hx hb dX5_key_8 (by decide) (fun c8 => ?_) (fun c8 => ?_)
    · refine lv_aload_n hx hb dX5_key_14 rfl (lv_at hl 0 rfl) ?_
      refine va_get (D := D) (ci := 5) (v := .int (nI (sKc σ))) (C := RX5) (T := TX5) (N := 20) hx hb hts in_X5 hown hK hP 0 rfl rfl 4 (by decide) (hts _ kf_X5_52) (fun _ h9 => h9) rfl dX5_key_15 ?_
      refine lv_bipush (v := 40) hx hb dX5_key_18 (by decide) ?_
      refine lv_icmp_ne (tgt := 26) hx hb dX5_key_20 (by decide) (fun c20 => ?_) (fun c20 => ?_)
      · have h4 : sKc σ < 40 := by rcases Nat.lt_or_ge (sKc σ) 40 with q | q; exact q; exact absurd (by rw [Nat.le_antisymm hkc q]; rfl) c20
        refine lv_aload_n hx hb dX5_key_26 rfl (lv_at hl 0 rfl) ?_
        refine va_get (D := D) (ci := 5) (v := .ref (ad 1)) (C := RX5) (T := TX5) (N := 20) hx hb hts in_X5 hown hK hP 0 rfl rfl 0 (by decide) (hts _ kf_X5_7) (fun _ h9 => h9) rfl dX5_key_27 ?_
        refine lv_aload_n hx hb dX5_key_30 rfl (lv_at hl 0 rfl) ?_
        refine va_get (D := D) (ci := 5) (v := .int (nI (sKc σ))) (C := RX5) (T := TX5) (N := 20) hx hb hts in_X5 hown hK hP 0 rfl rfl 4 (by decide) (hts _ kf_X5_52) (fun _ h9 => h9) rfl dX5_key_31 ?_
        refine lv_iload_n hx hb dX5_key_34 rfl (lv_at hl 1 rfl) ?_
        refine ar_p hx hb hK hP (hDD _) hS 1 rfl (x := t) (by omega) (by decide) dX5_key_35 (fun H locs hP hS => ?_)
        have hP : va_P D vwCl (rW ad cA (((upd (sTee σ) (sKc σ) t), (sStr σ), (sWea σ), (sHel σ), (sKc σ)), σ.2.1, σ.2.2.1, σ.2.2.2.1, σ.2.2.2.2)) H := hP
        refine lv_aload_n hx hb dX5_key_36 rfl (lv_at hl 0 rfl) ?_
        refine va_get (D := D) (ci := 5) (v := .ref (ad 2)) (C := RX5) (T := TX5) (N := 20) hx hb hts in_X5 hown hK hP 0 rfl rfl 1 (by decide) (hts _ kf_X5_13) (fun _ h9 => h9) rfl dX5_key_37 ?_
        refine lv_aload_n hx hb dX5_key_40 rfl (lv_at hl 0 rfl) ?_
        refine va_get (D := D) (ci := 5) (v := .int (nI (sKc σ))) (C := RX5) (T := TX5) (N := 20) hx hb hts in_X5 hown hK hP 0 rfl rfl 4 (by decide) (hts _ kf_X5_52) (fun _ h9 => h9) rfl dX5_key_41 ?_
        refine lv_iload_n hx hb dX5_key_44 rfl (lv_at hl 2 rfl) ?_
        refine lv_if_eq (tgt := 52) hx hb dX5_key_45 (by decide) (fun c45 => ?_) (fun c45 => ?_)
        · refine lv_iconst (v := 1) hx hb dX5_key_52 (by decide) ?_
          refine ar_p hx hb hK hP (hDD _) hS 2 rfl (x := 1) (by omega) (by decide) dX5_key_53 (fun H locs hP hS => ?_)
          have hP : va_P D vwCl (rW ad cA (((upd (sTee σ) (sKc σ) t), (upd (sStr σ) (sKc σ) 1), (sWea σ), (sHel σ), (sKc σ)), σ.2.1, σ.2.2.1, σ.2.2.2.1, σ.2.2.2.2)) H := hP
          refine lv_aload_n hx hb dX5_key_54 rfl (lv_at hl 0 rfl) ?_
          refine va_get (D := D) (ci := 5) (v := .ref (ad 3)) (C := RX5) (T := TX5) (N := 20) hx hb hts in_X5 hown hK hP 0 rfl rfl 2 (by decide) (hts _ kf_X5_16) (fun _ h9 => h9) rfl dX5_key_55 ?_
          refine lv_aload_n hx hb dX5_key_58 rfl (lv_at hl 0 rfl) ?_
          refine va_get (D := D) (ci := 5) (v := .int (nI (sKc σ))) (C := RX5) (T := TX5) (N := 20) hx hb hts in_X5 hown hK hP 0 rfl rfl 4 (by decide) (hts _ kf_X5_52) (fun _ h9 => h9) rfl dX5_key_59 ?_
          refine lv_iconst (v := 0) hx hb dX5_key_62 (by decide) ?_
          refine ar_p hx hb hK hP (hDD _) hS 3 rfl (x := 0) (by omega) (by decide) dX5_key_63 (fun H locs hP hS => ?_)
          have hP : va_P D vwCl (rW ad cA (((upd (sTee σ) (sKc σ) t), (upd (sStr σ) (sKc σ) 1), (upd (sWea σ) (sKc σ) 0), (sHel σ), (sKc σ)), σ.2.1, σ.2.2.1, σ.2.2.2.1, σ.2.2.2.2)) H := hP
          refine lv_aload_n hx hb dX5_key_64 rfl (lv_at hl 0 rfl) ?_
          refine va_get (D := D) (ci := 5) (v := .ref (ad 4)) (C := RX5) (T := TX5) (N := 20) hx hb hts in_X5 hown hK hP 0 rfl rfl 3 (by decide) (hts _ kf_X5_19) (fun _ h9 => h9) rfl dX5_key_65 ?_
          refine lv_aload_n hx hb dX5_key_68 rfl (lv_at hl 0 rfl) ?_
          refine va_get (D := D) (ci := 5) (v := .int (nI (sKc σ))) (C := RX5) (T := TX5) (N := 20) hx hb hts in_X5 hown hK hP 0 rfl rfl 4 (by decide) (hts _ kf_X5_52) (fun _ h9 => h9) rfl dX5_key_69 ?_
          refine lv_iconst (v := 0) hx hb dX5_key_72 (by decide) ?_
          refine ar_p hx hb hK hP (hDD _) hS 4 rfl (x := 0) (by omega) (by decide) dX5_key_73 (fun H locs hP hS => ?_)
          have hP : va_P D vwCl (rW ad cA (((upd (sTee σ) (sKc σ) t), (upd (sStr σ) (sKc σ) 1), (upd (sWea σ) (sKc σ) 0), (upd (sHel σ) (sKc σ) 0), (sKc σ)), σ.2.1, σ.2.2.1, σ.2.2.2.1, σ.2.2.2.2)) H := hP
          refine lv_aload_n hx hb dX5_key_74 rfl (lv_at hl 0 rfl) ?_
          refine lv_dup hx hb dX5_key_75 rfl ?_
          refine va_get (D := D) (ci := 5) (v := .int (nI (sKc σ))) (C := RX5) (T := TX5) (N := 20) hx hb hts in_X5 hown hK hP 0 rfl rfl 4 (by decide) (hts _ kf_X5_52) (fun _ h9 => h9) rfl dX5_key_76 ?_
          refine lv_iconst (v := 1) hx hb dX5_key_79 (by decide) ?_
          refine lv_iadd hx hb dX5_key_80 ?_
          refine tp_i (z := (nI ((sKc σ) + 1))) (nI_1 _) ?_
          refine va_put (D := D) (ci := 5) (v := .int (nI ((sKc σ) + 1))) (ty := .int) (C := RX5) (T := TX5) (N := 20) hx hb hts in_X5 tyX5 tyX5_ok nmX5 hown hK hP (hDD _) hS 0 rfl rfl 4 (by decide) (hts _ kf_X5_52) (fun _ h9 => h9) rfl (by decide +kernel) rfl rfl (Nat.le_of_ble_eq_true rfl) dX5_key_81 (fun H locs hP _ hS => ?_)
          have hP : va_P D vwCl (rW ad cA (((upd (sTee σ) (sKc σ) t), (upd (sStr σ) (sKc σ) 1), (upd (sWea σ) (sKc σ) 0), (upd (sHel σ) (sKc σ) 0), ((sKc σ) + 1)), σ.2.1, σ.2.2.1, σ.2.2.2.1, σ.2.2.2.2)) H := hP
          refine lv_aload_n hx hb dX5_key_84 rfl (lv_at hl 0 rfl) ?_
          refine va_get (D := D) (ci := 5) (v := .int (nI ((sKc σ) + 1))) (C := RX5) (T := TX5) (N := 20) hx hb hts in_X5 hown hK hP 0 rfl rfl 4 (by decide) (hts _ kf_X5_52) (fun _ h9 => h9) rfl dX5_key_85 ?_
          refine lv_iconst (v := 1) hx hb dX5_key_88 (by decide) ?_
          refine lv_isub hx hb dX5_key_89 ?_
          refine tp_i (z := (nI (sKc σ))) (nI_pred _) ?_
          exact rt_i (v := (nI (sKc σ))) (u := (((upd (sTee σ) (sKc σ) t), (upd (sStr σ) (sKc σ) 1), (upd (sWea σ) (sKc σ) 0), (upd (sHel σ) (sKc σ) 0), ((sKc σ) + 1)), σ.2.1, σ.2.2.1, σ.2.2.2.1, σ.2.2.2.2)) hx hb hr hlocks hS hP (pr2 (by first | (unfold f_key; rw [if_pos (⟨i_nlt.mp c2, c8⟩ : 1 ≤ t ∧ t ≤ 9), if_neg (fun q => c20 (by rw [q]; rfl)), if_pos c45]; done) | (unfold f_key; rw [if_pos (⟨i_nlt.mp c2, c8⟩ : 1 ≤ t ∧ t ≤ 9), if_neg (fun q => c20 (by rw [q]; rfl)), if_pos c45]; rfl))) dX5_key_90
        · refine lv_iconst (v := 2) hx hb dX5_key_48 (by decide) ?_
          refine lv_goto (tgt := 53) hx hb dX5_key_49 (by decide) ?_
          refine ar_p hx hb hK hP (hDD _) hS 2 rfl (x := 2) (by omega) (by decide) dX5_key_53 (fun H locs hP hS => ?_)
          have hP : va_P D vwCl (rW ad cA (((upd (sTee σ) (sKc σ) t), (upd (sStr σ) (sKc σ) 2), (sWea σ), (sHel σ), (sKc σ)), σ.2.1, σ.2.2.1, σ.2.2.2.1, σ.2.2.2.2)) H := hP
          refine lv_aload_n hx hb dX5_key_54 rfl (lv_at hl 0 rfl) ?_
          refine va_get (D := D) (ci := 5) (v := .ref (ad 3)) (C := RX5) (T := TX5) (N := 20) hx hb hts in_X5 hown hK hP 0 rfl rfl 2 (by decide) (hts _ kf_X5_16) (fun _ h9 => h9) rfl dX5_key_55 ?_
          refine lv_aload_n hx hb dX5_key_58 rfl (lv_at hl 0 rfl) ?_
          refine va_get (D := D) (ci := 5) (v := .int (nI (sKc σ))) (C := RX5) (T := TX5) (N := 20) hx hb hts in_X5 hown hK hP 0 rfl rfl 4 (by decide) (hts _ kf_X5_52) (fun _ h9 => h9) rfl dX5_key_59 ?_
          refine lv_iconst (v := 0) hx hb dX5_key_62 (by decide) ?_
          refine ar_p hx hb hK hP (hDD _) hS 3 rfl (x := 0) (by omega) (by decide) dX5_key_63 (fun H locs hP hS => ?_)
          have hP : va_P D vwCl (rW ad cA (((upd (sTee σ) (sKc σ) t), (upd (sStr σ) (sKc σ) 2), (upd (sWea σ) (sKc σ) 0), (sHel σ), (sKc σ)), σ.2.1, σ.2.2.1, σ.2.2.2.1, σ.2.2.2.2)) H := hP
          refine lv_aload_n hx hb dX5_key_64 rfl (lv_at hl 0 rfl) ?_
          refine va_get (D := D) (ci := 5) (v := .ref (ad 4)) (C := RX5) (T := TX5) (N := 20) hx hb hts in_X5 hown hK hP 0 rfl rfl 3 (by decide) (hts _ kf_X5_19) (fun _ h9 => h9) rfl dX5_key_65 ?_
          refine lv_aload_n hx hb dX5_key_68 rfl (lv_at hl 0 rfl) ?_
          refine va_get (D := D) (ci := 5) (v := .int (nI (sKc σ))) (C := RX5) (T := TX5) (N := 20) hx hb hts in_X5 hown hK hP 0 rfl rfl 4 (by decide) (hts _ kf_X5_52) (fun _ h9 => h9) rfl dX5_key_69 ?_
          refine lv_iconst (v := 0) hx hb dX5_key_72 (by decide) ?_
          refine ar_p hx hb hK hP (hDD _) hS 4 rfl (x := 0) (by omega) (by decide) dX5_key_73 (fun H locs hP hS => ?_)
          have hP : va_P D vwCl (rW ad cA (((upd (sTee σ) (sKc σ) t), (upd (sStr σ) (sKc σ) 2), (upd (sWea σ) (sKc σ) 0), (upd (sHel σ) (sKc σ) 0), (sKc σ)), σ.2.1, σ.2.2.1, σ.2.2.2.1, σ.2.2.2.2)) H := hP
          refine lv_aload_n hx hb dX5_key_74 rfl (lv_at hl 0 rfl) ?_
          refine lv_dup hx hb dX5_key_75 rfl ?_
          refine va_get (D := D) (ci := 5) (v := .int (nI (sKc σ))) (C := RX5) (T := TX5) (N := 20) hx hb hts in_X5 hown hK hP 0 rfl rfl 4 (by decide) (hts _ kf_X5_52) (fun _ h9 => h9) rfl dX5_key_76 ?_
          refine lv_iconst (v := 1) hx hb dX5_key_79 (by decide) ?_
          refine lv_iadd hx hb dX5_key_80 ?_
          refine tp_i (z := (nI ((sKc σ) + 1))) (nI_1 _) ?_
          refine va_put (D := D) (ci := 5) (v := .int (nI ((sKc σ) + 1))) (ty := .int) (C := RX5) (T := TX5) (N := 20) hx hb hts in_X5 tyX5 tyX5_ok nmX5 hown hK hP (hDD _) hS 0 rfl rfl 4 (by decide) (hts _ kf_X5_52) (fun _ h9 => h9) rfl (by decide +kernel) rfl rfl (Nat.le_of_ble_eq_true rfl) dX5_key_81 (fun H locs hP _ hS => ?_)
          have hP : va_P D vwCl (rW ad cA (((upd (sTee σ) (sKc σ) t), (upd (sStr σ) (sKc σ) 2), (upd (sWea σ) (sKc σ) 0), (upd (sHel σ) (sKc σ) 0), ((sKc σ) + 1)), σ.2.1, σ.2.2.1, σ.2.2.2.1, σ.2.2.2.2)) H := hP
          refine lv_aload_n hx hb dX5_key_84 rfl (lv_at hl 0 rfl) ?_
          refine va_get (D := D) (ci := 5) (v := .int (nI ((sKc σ) + 1))) (C := RX5) (T := TX5) (N := 20) hx hb hts in_X5 hown hK hP 0 rfl rfl 4 (by decide) (hts _ kf_X5_52) (fun _ h9 => h9) rfl dX5_key_85 ?_
          refine lv_iconst (v := 1) hx hb dX5_key_88 (by decide) ?_
          refine lv_isub hx hb dX5_key_89 ?_
          refine tp_i (z := (nI (sKc σ))) (nI_pred _) ?_
          exact rt_i (v := (nI (sKc σ))) (u := (((upd (sTee σ) (sKc σ) t), (upd (sStr σ) (sKc σ) 2), (upd (sWea σ) (sKc σ) 0), (upd (sHel σ) (sKc σ) 0), ((sKc σ) + 1)), σ.2.1, σ.2.2.1, σ.2.2.2.1, σ.2.2.2.2)) hx hb hr hlocks hS hP (pr2 (by first | (unfold f_key; rw [if_pos (⟨i_nlt.mp c2, c8⟩ : 1 ≤ t ∧ t ≤ 9), if_neg (fun q => c20 (by rw [q]; rfl)), if_neg c45]; done) | (unfold f_key; rw [if_pos (⟨i_nlt.mp c2, c8⟩ : 1 ≤ t ∧ t ≤ 9), if_neg (fun q => c20 (by rw [q]; rfl)), if_neg c45]; rfl))) dX5_key_90
      · refine lv_bipush (v := (-3)) hx hb dX5_key_23 (by decide) ?_
        exact rt_i (v := (-3)) (u := σ) hx hb hr hlocks hS hP (pr2 (by first | (unfold f_key; rw [if_pos (⟨i_nlt.mp c2, c8⟩ : 1 ≤ t ∧ t ≤ 9), if_pos (nI_inj (b := 40) (by omega) (by decide) c20)]; done) | (unfold f_key; rw [if_pos (⟨i_nlt.mp c2, c8⟩ : 1 ≤ t ∧ t ≤ 9), if_pos (nI_inj (b := 40) (by omega) (by decide) c20)]; rfl))) dX5_key_25
    · refine lv_bipush (v := (-2)) hx hb dX5_key_11 (by decide) ?_
      exact rt_i (v := (-2)) (u := σ) hx hb hr hlocks hS hP (pr2 (if_neg (fun q => c8 q.2))) dX5_key_13
set_option maxHeartbeats 4000000 in
set_option maxRecDepth 100000 in
theorem c_X5_vault (l : Launch) (D : va_G) (cA : ClassId) (ad : Nat → Nat) (A : Nat → Prop) (hDD : ∀ u, va_D A (rW ad cA u)) (σ : CS) (x : Int32) (hI : Inv σ) (hg : sGr σ = 0) (hb9 : sBc σ ≤ 1000000000) : Ct l D cA (rW ad cA) A yX5_vault cX5_vault 2 (some .int) 1 20 [.ref (ad 0), .int x] σ (fun r u => r = (f_vault σ x).1 ∧ u = (f_vault σ x).2) := by
  refine Ct.of (by decide) (Nat.le_of_ble_eq_true rfl) ?_
  intro p e s m below meth c ls S0 hr hlocks hK hP hS hl
  obtain ⟨hx, hb, hml, hown, hts⟩ := id S0
  have hl : lv_has ls 2 [(0, .ref (ad 0)), (1, .int x)] := hl
  have hkc := hI.kc
  have hvc := hI.vc
  have hgc := hI.gr
  have htc := hI.tc
  by_cases hn : amt x
  · skip
    refine lv_iload_n hx hb dX5_vault_0 rfl (lv_at hl 1 rfl) ?_
    refine cl_s (rest := []) (c_X5_isAmount l D cA ad A hDD σ x ) ⟨hx, hb, hml, hown, hts⟩ hK hP hS kv_X5_63 ⟨Nat.le_of_ble_eq_true rfl, Nat.le_of_ble_eq_true rfl⟩ ⟨Nat.zero_le _, Nat.zero_le _⟩ rfl hl.1 rfl (Nat.le_of_ble_eq_true rfl) (fun q h => h) dX5_vault_1 (fun r u H locs hw hP hS => ?_)
    rw [hw.2] at hP
    refine tp_i (z := (bz (amt x))) hw.1 ?_
    refine tp_i (z := 1) (bz_1 hn) ?_
    refine lv_if_ne (tgt := 10) hx hb dX5_vault_4 (by decide) (fun _ => ?_) (fun c9 => absurd c9 (by decide))
    refine lv_aload_n hx hb dX5_vault_10 rfl (lv_at hl 0 rfl) ?_
    refine va_get (D := D) (ci := 5) (v := .int (nI (sVc σ))) (C := RX5) (T := TX5) (N := 20) hx hb hts in_X5 hown hK hP 0 rfl rfl 9 (by decide) (hts _ kf_X5_56) (fun _ h9 => h9) rfl dX5_vault_11 ?_
    refine lv_bipush (v := 12) hx hb dX5_vault_14 (by decide) ?_
    refine lv_icmp_ne (tgt := 22) hx hb dX5_vault_16 (by decide) (fun c16 => ?_) (fun c16 => ?_)
    · have h4 : sVc σ < 12 := by rcases Nat.lt_or_ge (sVc σ) 12 with q | q; exact q; exact absurd (by rw [Nat.le_antisymm hvc q]; rfl) c16
      refine lv_aload_n hx hb dX5_vault_22 rfl (lv_at hl 0 rfl) ?_
      refine va_get (D := D) (ci := 5) (v := .ref (ad 5)) (C := RX5) (T := TX5) (N := 20) hx hb hts in_X5 hown hK hP 0 rfl rfl 5 (by decide) (hts _ kf_X5_22) (fun _ h9 => h9) rfl dX5_vault_23 ?_
      refine lv_aload_n hx hb dX5_vault_26 rfl (lv_at hl 0 rfl) ?_
      refine va_get (D := D) (ci := 5) (v := .int (nI (sVc σ))) (C := RX5) (T := TX5) (N := 20) hx hb hts in_X5 hown hK hP 0 rfl rfl 9 (by decide) (hts _ kf_X5_56) (fun _ h9 => h9) rfl dX5_vault_27 ?_
      refine lv_iconst (v := 0) hx hb dX5_vault_30 (by decide) ?_
      refine ar_p hx hb hK hP (hDD _) hS 5 rfl (x := 0) (by omega) (by decide) dX5_vault_31 (fun H locs hP hS => ?_)
      have hP : va_P D vwCl (rW ad cA (σ.1, ((sLim σ), (upd (sSm σ) (sVc σ) 0), (sNx σ), (sLf σ), (sRt σ), (sVc σ)), σ.2.2.1, σ.2.2.2.1, σ.2.2.2.2)) H := hP
      refine lv_aload_n hx hb dX5_vault_32 rfl (lv_at hl 0 rfl) ?_
      refine va_get (D := D) (ci := 5) (v := .ref (ad 6)) (C := RX5) (T := TX5) (N := 20) hx hb hts in_X5 hown hK hP 0 rfl rfl 6 (by decide) (hts _ kf_X5_25) (fun _ h9 => h9) rfl dX5_vault_33 ?_
      refine lv_aload_n hx hb dX5_vault_36 rfl (lv_at hl 0 rfl) ?_
      refine va_get (D := D) (ci := 5) (v := .int (nI (sVc σ))) (C := RX5) (T := TX5) (N := 20) hx hb hts in_X5 hown hK hP 0 rfl rfl 9 (by decide) (hts _ kf_X5_56) (fun _ h9 => h9) rfl dX5_vault_37 ?_
      refine lv_iload_n hx hb dX5_vault_40 rfl (lv_at hl 1 rfl) ?_
      refine ar_p hx hb hK hP (hDD _) hS 6 rfl (x := x) (by omega) (by decide) dX5_vault_41 (fun H locs hP hS => ?_)
      have hP : va_P D vwCl (rW ad cA (σ.1, ((upd (sLim σ) (sVc σ) x), (upd (sSm σ) (sVc σ) 0), (sNx σ), (sLf σ), (sRt σ), (sVc σ)), σ.2.2.1, σ.2.2.2.1, σ.2.2.2.2)) H := hP
      refine lv_aload_n hx hb dX5_vault_42 rfl (lv_at hl 0 rfl) ?_
      refine va_get (D := D) (ci := 5) (v := .ref (ad 7)) (C := RX5) (T := TX5) (N := 20) hx hb hts in_X5 hown hK hP 0 rfl rfl 7 (by decide) (hts _ kf_X5_28) (fun _ h9 => h9) rfl dX5_vault_43 ?_
      refine lv_aload_n hx hb dX5_vault_46 rfl (lv_at hl 0 rfl) ?_
      refine va_get (D := D) (ci := 5) (v := .int (nI (sVc σ))) (C := RX5) (T := TX5) (N := 20) hx hb hts in_X5 hown hK hP 0 rfl rfl 9 (by decide) (hts _ kf_X5_56) (fun _ h9 => h9) rfl dX5_vault_47 ?_
      refine lv_iconst (v := (-1)) hx hb dX5_vault_50 (by decide) ?_
      refine ar_p hx hb hK hP (hDD _) hS 7 rfl (x := (-1)) (by omega) (by decide) dX5_vault_51 (fun H locs hP hS => ?_)
      have hP : va_P D vwCl (rW ad cA (σ.1, ((upd (sLim σ) (sVc σ) x), (upd (sSm σ) (sVc σ) 0), (upd (sNx σ) (sVc σ) (-1)), (sLf σ), (sRt σ), (sVc σ)), σ.2.2.1, σ.2.2.2.1, σ.2.2.2.2)) H := hP
      refine lv_aload_n hx hb dX5_vault_52 rfl (lv_at hl 0 rfl) ?_
      refine va_get (D := D) (ci := 5) (v := .ref (ad 8)) (C := RX5) (T := TX5) (N := 20) hx hb hts in_X5 hown hK hP 0 rfl rfl 8 (by decide) (hts _ kf_X5_31) (fun _ h9 => h9) rfl dX5_vault_53 ?_
      refine lv_iconst (v := 2) hx hb dX5_vault_56 (by decide) ?_
      refine lv_aload_n hx hb dX5_vault_57 rfl (lv_at hl 0 rfl) ?_
      refine va_get (D := D) (ci := 5) (v := .int (nI (sVc σ))) (C := RX5) (T := TX5) (N := 20) hx hb hts in_X5 hown hK hP 0 rfl rfl 9 (by decide) (hts _ kf_X5_56) (fun _ h9 => h9) rfl dX5_vault_58 ?_
      refine lv_imul hx hb dX5_vault_61 ?_
      refine tp_i (z := (nI (2 * (sVc σ)))) (pk_mul 2 _) ?_
      refine lv_iconst (v := (-1)) hx hb dX5_vault_62 (by decide) ?_
      refine ar_p hx hb hK hP (hDD _) hS 8 rfl (x := (-1)) (by omega) (by decide) dX5_vault_63 (fun H locs hP hS => ?_)
      have hP := (mix_u0 (sLf σ) (sRt σ) (sVc σ) (-1)) ▸ hP
      have hP : va_P D vwCl (rW ad cA (σ.1, ((upd (sLim σ) (sVc σ) x), (upd (sSm σ) (sVc σ) 0), (upd (sNx σ) (sVc σ) (-1)), (upd (sLf σ) (sVc σ) (-1)), (sRt σ), (sVc σ)), σ.2.2.1, σ.2.2.2.1, σ.2.2.2.2)) H := hP
      refine lv_aload_n hx hb dX5_vault_64 rfl (lv_at hl 0 rfl) ?_
      refine va_get (D := D) (ci := 5) (v := .ref (ad 8)) (C := RX5) (T := TX5) (N := 20) hx hb hts in_X5 hown hK hP 0 rfl rfl 8 (by decide) (hts _ kf_X5_31) (fun _ h9 => h9) rfl dX5_vault_65 ?_
      refine lv_iconst (v := 2) hx hb dX5_vault_68 (by decide) ?_
      refine lv_aload_n hx hb dX5_vault_69 rfl (lv_at hl 0 rfl) ?_
      refine va_get (D := D) (ci := 5) (v := .int (nI (sVc σ))) (C := RX5) (T := TX5) (N := 20) hx hb hts in_X5 hown hK hP 0 rfl rfl 9 (by decide) (hts _ kf_X5_56) (fun _ h9 => h9) rfl dX5_vault_70 ?_
      refine lv_imul hx hb dX5_vault_73 ?_
      refine tp_i (z := (nI (2 * (sVc σ)))) (pk_mul 2 _) ?_
      refine lv_iconst (v := 1) hx hb dX5_vault_74 (by decide) ?_
      refine lv_iadd hx hb dX5_vault_75 ?_
      refine tp_i (z := (nI ((2 * (sVc σ)) + 1))) (nI_1 _) ?_
      refine lv_iconst (v := (-1)) hx hb dX5_vault_76 (by decide) ?_
      refine ar_p hx hb hK hP (hDD _) hS 8 rfl (x := (-1)) (by omega) (by decide) dX5_vault_77 (fun H locs hP hS => ?_)
      have hP := (mix_u1 (upd (sLf σ) (sVc σ) (-1)) (sRt σ) (sVc σ) (-1)) ▸ hP
      have hP : va_P D vwCl (rW ad cA (σ.1, ((upd (sLim σ) (sVc σ) x), (upd (sSm σ) (sVc σ) 0), (upd (sNx σ) (sVc σ) (-1)), (upd (sLf σ) (sVc σ) (-1)), (upd (sRt σ) (sVc σ) (-1)), (sVc σ)), σ.2.2.1, σ.2.2.2.1, σ.2.2.2.2)) H := hP
      refine lv_aload_n hx hb dX5_vault_78 rfl (lv_at hl 0 rfl) ?_
      refine lv_dup hx hb dX5_vault_79 rfl ?_
      refine va_get (D := D) (ci := 5) (v := .int (nI (sVc σ))) (C := RX5) (T := TX5) (N := 20) hx hb hts in_X5 hown hK hP 0 rfl rfl 9 (by decide) (hts _ kf_X5_56) (fun _ h9 => h9) rfl dX5_vault_80 ?_
      refine lv_iconst (v := 1) hx hb dX5_vault_83 (by decide) ?_
      refine lv_iadd hx hb dX5_vault_84 ?_
      refine tp_i (z := (nI ((sVc σ) + 1))) (nI_1 _) ?_
      refine va_put (D := D) (ci := 5) (v := .int (nI ((sVc σ) + 1))) (ty := .int) (C := RX5) (T := TX5) (N := 20) hx hb hts in_X5 tyX5 tyX5_ok nmX5 hown hK hP (hDD _) hS 0 rfl rfl 9 (by decide) (hts _ kf_X5_56) (fun _ h9 => h9) rfl (by decide +kernel) rfl rfl (Nat.le_of_ble_eq_true rfl) dX5_vault_85 (fun H locs hP _ hS => ?_)
      have hP : va_P D vwCl (rW ad cA (σ.1, ((upd (sLim σ) (sVc σ) x), (upd (sSm σ) (sVc σ) 0), (upd (sNx σ) (sVc σ) (-1)), (upd (sLf σ) (sVc σ) (-1)), (upd (sRt σ) (sVc σ) (-1)), ((sVc σ) + 1)), σ.2.2.1, σ.2.2.2.1, σ.2.2.2.2)) H := hP
      refine lv_aload_n hx hb dX5_vault_88 rfl (lv_at hl 0 rfl) ?_
      refine va_get (D := D) (ci := 5) (v := .int (nI ((sVc σ) + 1))) (C := RX5) (T := TX5) (N := 20) hx hb hts in_X5 hown hK hP 0 rfl rfl 9 (by decide) (hts _ kf_X5_56) (fun _ h9 => h9) rfl dX5_vault_89 ?_
      refine lv_iconst (v := 1) hx hb dX5_vault_92 (by decide) ?_
      refine lv_isub hx hb dX5_vault_93 ?_
      refine tp_i (z := (nI (sVc σ))) (nI_pred _) ?_
      exact rt_i (v := (nI (sVc σ))) (u := (σ.1, ((upd (sLim σ) (sVc σ) x), (upd (sSm σ) (sVc σ) 0), (upd (sNx σ) (sVc σ) (-1)), (upd (sLf σ) (sVc σ) (-1)), (upd (sRt σ) (sVc σ) (-1)), ((sVc σ) + 1)), σ.2.2.1, σ.2.2.2.1, σ.2.2.2.2)) hx hb hr hlocks hS hP (pr2 (by first | (unfold f_vault; rw [if_pos hn, if_neg (fun q => c16 (by rw [q]; rfl))]; done) | (unfold f_vault; rw [if_pos hn, if_neg (fun q => c16 (by rw [q]; rfl))]; rfl))) dX5_vault_94
    · refine lv_bipush (v := (-3)) hx hb dX5_vault_19 (by decide) ?_
      exact rt_i (v := (-3)) (u := σ) hx hb hr hlocks hS hP (pr2 (by first | (unfold f_vault; rw [if_pos hn, if_pos (nI_inj (b := 12) (by omega) (by decide) c16)]; done) | (unfold f_vault; rw [if_pos hn, if_pos (nI_inj (b := 12) (by omega) (by decide) c16)]; rfl))) dX5_vault_21
  · skip
    refine lv_iload_n hx hb dX5_vault_0 rfl (lv_at hl 1 rfl) ?_
    refine cl_s (rest := []) (c_X5_isAmount l D cA ad A hDD σ x ) ⟨hx, hb, hml, hown, hts⟩ hK hP hS kv_X5_63 ⟨Nat.le_of_ble_eq_true rfl, Nat.le_of_ble_eq_true rfl⟩ ⟨Nat.zero_le _, Nat.zero_le _⟩ rfl hl.1 rfl (Nat.le_of_ble_eq_true rfl) (fun q h => h) dX5_vault_1 (fun r u H locs hw hP hS => ?_)
    rw [hw.2] at hP
    refine tp_i (z := (bz (amt x))) hw.1 ?_
    refine tp_i (z := 0) (bz_0 hn) ?_
    refine lv_if_ne (tgt := 10) hx hb dX5_vault_4 (by decide) (fun c9 => absurd (by decide) c9) (fun _ => ?_)
    refine lv_bipush (v := (-2)) hx hb dX5_vault_7 (by decide) ?_
    exact rt_i (v := (-2)) (u := σ) hx hb hr hlocks hS hP (pr2 (if_neg hn)) dX5_vault_9
set_option maxHeartbeats 4000000 in
set_option maxRecDepth 100000 in
theorem c_X5_hang (l : Launch) (D : va_G) (cA : ClassId) (ad : Nat → Nat) (A : Nat → Prop) (hDD : ∀ u, va_D A (rW ad cA u)) (σ : CS) (v h k : Int32) (hI : Inv σ) (hg : sGr σ = 0) (hb9 : sBc σ ≤ 1000000000) : Ct l D cA (rW ad cA) A yX5_hang cX5_hang 5 (some .int) 1 21 [.ref (ad 0), .int v, .int h, .int k] σ (fun r u => r = (f_hang σ v h k).1 ∧ u = (f_hang σ v h k).2) := by
  refine Ct.of (by decide) (Nat.le_of_ble_eq_true rfl) ?_
  intro p e s m below meth c ls S0 hr hlocks hK hP hS hl
  obtain ⟨hx, hb, hml, hown, hts⟩ := id S0
  have hl : lv_has ls 5 [(0, .ref (ad 0)), (1, .int v), (2, .int h), (3, .int k)] := hl
  have hkc := hI.kc
  have hvc := hI.vc
  have hgc := hI.gr
  have htc := hI.tc
  rcases ix_cases (n := sVc σ) v (by omega) with h0 | ⟨j, hj, rfl⟩
  · refine lv_aload_n hx hb dX5_hang_0 rfl (lv_at hl 0 rfl) ?_
    refine lv_iload_n hx hb dX5_hang_1 rfl (lv_at hl 1 rfl) ?_
    refine cl_i (rest := []) (c_X5_isVault l D cA ad A hDD σ v ) ⟨hx, hb, hml, hown, hts⟩ hK hP hS kv_X5_67 ⟨Nat.le_of_ble_eq_true rfl, Nat.le_of_ble_eq_true rfl⟩ ⟨Nat.zero_le _, Nat.zero_le _⟩ 0 rfl rfl rfl hl.1 rfl (Nat.le_of_ble_eq_true rfl) (fun q h => h) dX5_hang_2 (fun r u H locs hw hP hS _ => ?_)
    rw [hw.2] at hP
    refine tp_i (z := (hz (sVc σ) v)) hw.1 ?_
    refine tp_i (z := 0) (hz_0 h0) ?_
    refine lv_if_eq (tgt := 28) hx hb dX5_hang_5 (by decide) (fun _ => ?_) (fun c9 => absurd (by decide) c9)
    refine lv_bipush (v := (-2)) hx hb dX5_hang_28 (by decide) ?_
    exact rt_i (v := (-2)) (u := σ) hx hb hr hlocks hS hP (pr2 (hang_b1 h0)) dX5_hang_30
  · have h0 := ix_nI hj (n := sVc σ) (by omega)
    refine lv_aload_n hx hb dX5_hang_0 rfl (lv_at hl 0 rfl) ?_
    refine lv_iload_n hx hb dX5_hang_1 rfl (lv_at hl 1 rfl) ?_
    refine cl_i (rest := []) (c_X5_isVault l D cA ad A hDD σ (nI j) ) ⟨hx, hb, hml, hown, hts⟩ hK hP hS kv_X5_67 ⟨Nat.le_of_ble_eq_true rfl, Nat.le_of_ble_eq_true rfl⟩ ⟨Nat.zero_le _, Nat.zero_le _⟩ 0 rfl rfl rfl hl.1 rfl (Nat.le_of_ble_eq_true rfl) (fun q h => h) dX5_hang_2 (fun r u H locs hw hP hS _ => ?_)
    rw [hw.2] at hP
    refine tp_i (z := (hz (sVc σ) (nI j))) hw.1 ?_
    refine tp_i (z := 1) (hz_1 h0) ?_
    refine lv_if_eq (tgt := 28) hx hb dX5_hang_5 (by decide) (fun c9 => absurd c9 (by decide)) (fun _ => ?_)
    by_cases hh : okh h
    · skip
      refine lv_iload_n hx hb dX5_hang_8 rfl (lv_at hl 2 rfl) ?_
      refine cl_s (rest := []) (c_X5_isHand l D cA ad A hDD σ h ) ⟨hx, hb, hml, hown, hts⟩ hK hP hS kv_X5_70 ⟨Nat.le_of_ble_eq_true rfl, Nat.le_of_ble_eq_true rfl⟩ ⟨Nat.zero_le _, Nat.zero_le _⟩ rfl hl.1 rfl (Nat.le_of_ble_eq_true rfl) (fun q h => h) dX5_hang_9 (fun r u H locs hw hP hS => ?_)
      rw [hw.2] at hP
      refine tp_i (z := (bz (okh h))) hw.1 ?_
      refine tp_i (z := 1) (bz_1 hh) ?_
      refine lv_if_eq (tgt := 28) hx hb dX5_hang_12 (by decide) (fun c9 => absurd c9 (by decide)) (fun _ => ?_)
      refine lv_iload_n hx hb dX5_hang_15 rfl (lv_at hl 3 rfl) ?_
      refine lv_iconst (v := (-1)) hx hb dX5_hang_16 (by decide) ?_
      refine lv_icmp_eq (tgt := 31) hx hb dX5_hang_17 (by decide) (fun c17 => ?_) (fun c17 => ?_)
      · rcases hh with rfl | rfl
        · skip
          refine lv_aload_n hx hb dX5_hang_31 rfl (lv_at hl 0 rfl) ?_
          refine va_get (D := D) (ci := 5) (v := .ref (ad 8)) (C := RX5) (T := TX5) (N := 20) hx hb hts in_X5 hown hK hP 0 rfl rfl 8 (by decide) (hts _ kf_X5_31) (fun _ h9 => h9) rfl dX5_hang_32 ?_
          refine lv_iconst (v := 2) hx hb dX5_hang_35 (by decide) ?_
          refine lv_iload_n hx hb dX5_hang_36 rfl (lv_at hl 1 rfl) ?_
          refine lv_imul hx hb dX5_hang_37 ?_
          refine tp_i (z := (nI (2 * j))) (pk_mul 2 _) ?_
          refine lv_iload_n hx hb dX5_hang_38 rfl (lv_at hl 2 rfl) ?_
          refine lv_iadd hx hb dX5_hang_39 ?_
          refine tp_i (z := (nI (2 * j))) (Int32.add_zero _) ?_
          refine ar_g hx hb hK hP 8 rfl (by omega) (by decide) dX5_hang_40 ?_
          refine tp_i (z := (sLf σ j)) (mix_0 _ _ _) ?_
          refine lv_istore (lv' := [(4, .int (sLf σ j)), (0, .ref (ad 0)), (1, .int (nI j)), (2, .int 0), (3, .int k)]) hx hb dX5_hang_41 hl (by decide) rfl (fun ls hl => ?_)
          refine lv_aload_n hx hb dX5_hang_43 rfl (lv_at hl 1 rfl) ?_
          refine va_get (D := D) (ci := 5) (v := .ref (ad 8)) (C := RX5) (T := TX5) (N := 20) hx hb hts in_X5 hown hK hP 0 rfl rfl 8 (by decide) (hts _ kf_X5_31) (fun _ h9 => h9) rfl dX5_hang_44 ?_
          refine lv_iconst (v := 2) hx hb dX5_hang_47 (by decide) ?_
          refine lv_iload_n hx hb dX5_hang_48 rfl (lv_at hl 2 rfl) ?_
          refine lv_imul hx hb dX5_hang_49 ?_
          refine tp_i (z := (nI (2 * j))) (pk_mul 2 _) ?_
          refine lv_iload_n hx hb dX5_hang_50 rfl (lv_at hl 3 rfl) ?_
          refine lv_iadd hx hb dX5_hang_51 ?_
          refine tp_i (z := (nI (2 * j))) (Int32.add_zero _) ?_
          refine lv_iload_n hx hb dX5_hang_52 rfl (lv_at hl 4 rfl) ?_
          refine ar_p hx hb hK hP (hDD _) hS 8 rfl (x := k) (by omega) (by decide) dX5_hang_53 (fun H locs hP hS => ?_)
          have hP := (mix_u0 (sLf σ) (sRt σ) j k) ▸ hP
          have hP : va_P D vwCl (rW ad cA (σ.1, ((sLim σ), (sSm σ), (sNx σ), (upd (sLf σ) j k), (sRt σ), (sVc σ)), σ.2.2.1, σ.2.2.2.1, σ.2.2.2.2)) H := hP
          refine lv_iload hx hb dX5_hang_54 (lv_at hl 0 rfl) ?_
          exact rt_i (v := (sLf σ j)) (u := (σ.1, ((sLim σ), (sSm σ), (sNx σ), (upd (sLf σ) j k), (sRt σ), (sVc σ)), σ.2.2.1, σ.2.2.2.1, σ.2.2.2.2)) hx hb hr hlocks hS hP ((by rw [hang_ok h0 (Or.inl rfl) (Or.inl c17)]; exact ⟨(hd_0 _ _).symm, by show _ = shk σ j 0 _; unfold shk; rw [if_pos rfl]⟩)) dX5_hang_56
        · skip
          refine lv_aload_n hx hb dX5_hang_31 rfl (lv_at hl 0 rfl) ?_
          refine va_get (D := D) (ci := 5) (v := .ref (ad 8)) (C := RX5) (T := TX5) (N := 20) hx hb hts in_X5 hown hK hP 0 rfl rfl 8 (by decide) (hts _ kf_X5_31) (fun _ h9 => h9) rfl dX5_hang_32 ?_
          refine lv_iconst (v := 2) hx hb dX5_hang_35 (by decide) ?_
          refine lv_iload_n hx hb dX5_hang_36 rfl (lv_at hl 1 rfl) ?_
          refine lv_imul hx hb dX5_hang_37 ?_
          refine tp_i (z := (nI (2 * j))) (pk_mul 2 _) ?_
          refine lv_iload_n hx hb dX5_hang_38 rfl (lv_at hl 2 rfl) ?_
          refine lv_iadd hx hb dX5_hang_39 ?_
          refine tp_i (z := (nI ((2 * j) + 1))) (nI_1 _) ?_
          refine ar_g hx hb hK hP 8 rfl (by omega) (by decide) dX5_hang_40 ?_
          refine tp_i (z := (sRt σ j)) (mix_1 _ _ _) ?_
          refine lv_istore (lv' := [(4, .int (sRt σ j)), (0, .ref (ad 0)), (1, .int (nI j)), (2, .int 1), (3, .int k)]) hx hb dX5_hang_41 hl (by decide) rfl (fun ls hl => ?_)
          refine lv_aload_n hx hb dX5_hang_43 rfl (lv_at hl 1 rfl) ?_
          refine va_get (D := D) (ci := 5) (v := .ref (ad 8)) (C := RX5) (T := TX5) (N := 20) hx hb hts in_X5 hown hK hP 0 rfl rfl 8 (by decide) (hts _ kf_X5_31) (fun _ h9 => h9) rfl dX5_hang_44 ?_
          refine lv_iconst (v := 2) hx hb dX5_hang_47 (by decide) ?_
          refine lv_iload_n hx hb dX5_hang_48 rfl (lv_at hl 2 rfl) ?_
          refine lv_imul hx hb dX5_hang_49 ?_
          refine tp_i (z := (nI (2 * j))) (pk_mul 2 _) ?_
          refine lv_iload_n hx hb dX5_hang_50 rfl (lv_at hl 3 rfl) ?_
          refine lv_iadd hx hb dX5_hang_51 ?_
          refine tp_i (z := (nI ((2 * j) + 1))) (nI_1 _) ?_
          refine lv_iload_n hx hb dX5_hang_52 rfl (lv_at hl 4 rfl) ?_
          refine ar_p hx hb hK hP (hDD _) hS 8 rfl (x := k) (by omega) (by decide) dX5_hang_53 (fun H locs hP hS => ?_)
          have hP := (mix_u1 (sLf σ) (sRt σ) j k) ▸ hP
          have hP : va_P D vwCl (rW ad cA (σ.1, ((sLim σ), (sSm σ), (sNx σ), (sLf σ), (upd (sRt σ) j k), (sVc σ)), σ.2.2.1, σ.2.2.2.1, σ.2.2.2.2)) H := hP
          refine lv_iload hx hb dX5_hang_54 (lv_at hl 0 rfl) ?_
          exact rt_i (v := (sRt σ j)) (u := (σ.1, ((sLim σ), (sSm σ), (sNx σ), (sLf σ), (upd (sRt σ) j k), (sVc σ)), σ.2.2.1, σ.2.2.2.1, σ.2.2.2.2)) hx hb hr hlocks hS hP ((by rw [hang_ok h0 (Or.inr rfl) (Or.inl c17)]; exact ⟨(hd_1 _ _).symm, by show _ = shk σ j 1 _; unfold shk; rw [if_neg (by decide)]⟩)) dX5_hang_56
      · rcases ix_cases (n := sKc σ) k (by omega) with hq | ⟨i, hi, rfl⟩
        · refine lv_aload_n hx hb dX5_hang_20 rfl (lv_at hl 0 rfl) ?_
          refine lv_iload_n hx hb dX5_hang_21 rfl (lv_at hl 3 rfl) ?_
          refine cl_i (rest := []) (c_X5_isKey l D cA ad A hDD σ k ) ⟨hx, hb, hml, hown, hts⟩ hK hP hS kv_X5_73 ⟨Nat.le_of_ble_eq_true rfl, Nat.le_of_ble_eq_true rfl⟩ ⟨Nat.zero_le _, Nat.zero_le _⟩ 0 rfl rfl rfl hl.1 rfl (Nat.le_of_ble_eq_true rfl) (fun q h => h) dX5_hang_22 (fun r u H locs hw hP hS _ => ?_)
          rw [hw.2] at hP
          refine tp_i (z := (hz (sKc σ) k)) hw.1 ?_
          refine tp_i (z := 0) (hz_0 hq) ?_
          refine lv_if_ne (tgt := 31) hx hb dX5_hang_25 (by decide) (fun c9 => absurd (by decide) c9) (fun _ => ?_)
          refine lv_bipush (v := (-2)) hx hb dX5_hang_28 (by decide) ?_
          exact rt_i (v := (-2)) (u := σ) hx hb hr hlocks hS hP (pr2 (hang_b2 h0 (fun q => q.2.elim c17 (ix_none_s hq)))) dX5_hang_30
        · have hq := ix_nI hi (n := sKc σ) (by omega)
          refine lv_aload_n hx hb dX5_hang_20 rfl (lv_at hl 0 rfl) ?_
          refine lv_iload_n hx hb dX5_hang_21 rfl (lv_at hl 3 rfl) ?_
          refine cl_i (rest := []) (c_X5_isKey l D cA ad A hDD σ (nI i) ) ⟨hx, hb, hml, hown, hts⟩ hK hP hS kv_X5_73 ⟨Nat.le_of_ble_eq_true rfl, Nat.le_of_ble_eq_true rfl⟩ ⟨Nat.zero_le _, Nat.zero_le _⟩ 0 rfl rfl rfl hl.1 rfl (Nat.le_of_ble_eq_true rfl) (fun q h => h) dX5_hang_22 (fun r u H locs hw hP hS _ => ?_)
          rw [hw.2] at hP
          refine tp_i (z := (hz (sKc σ) (nI i))) hw.1 ?_
          refine tp_i (z := 1) (hz_1 hq) ?_
          refine lv_if_ne (tgt := 31) hx hb dX5_hang_25 (by decide) (fun _ => ?_) (fun c9 => absurd c9 (by decide))
          rcases hh with rfl | rfl
          · skip
            refine lv_aload_n hx hb dX5_hang_31 rfl (lv_at hl 0 rfl) ?_
            refine va_get (D := D) (ci := 5) (v := .ref (ad 8)) (C := RX5) (T := TX5) (N := 20) hx hb hts in_X5 hown hK hP 0 rfl rfl 8 (by decide) (hts _ kf_X5_31) (fun _ h9 => h9) rfl dX5_hang_32 ?_
            refine lv_iconst (v := 2) hx hb dX5_hang_35 (by decide) ?_
            refine lv_iload_n hx hb dX5_hang_36 rfl (lv_at hl 1 rfl) ?_
            refine lv_imul hx hb dX5_hang_37 ?_
            refine tp_i (z := (nI (2 * j))) (pk_mul 2 _) ?_
            refine lv_iload_n hx hb dX5_hang_38 rfl (lv_at hl 2 rfl) ?_
            refine lv_iadd hx hb dX5_hang_39 ?_
            refine tp_i (z := (nI (2 * j))) (Int32.add_zero _) ?_
            refine ar_g hx hb hK hP 8 rfl (by omega) (by decide) dX5_hang_40 ?_
            refine tp_i (z := (sLf σ j)) (mix_0 _ _ _) ?_
            refine lv_istore (lv' := [(4, .int (sLf σ j)), (0, .ref (ad 0)), (1, .int (nI j)), (2, .int 0), (3, .int (nI i))]) hx hb dX5_hang_41 hl (by decide) rfl (fun ls hl => ?_)
            refine lv_aload_n hx hb dX5_hang_43 rfl (lv_at hl 1 rfl) ?_
            refine va_get (D := D) (ci := 5) (v := .ref (ad 8)) (C := RX5) (T := TX5) (N := 20) hx hb hts in_X5 hown hK hP 0 rfl rfl 8 (by decide) (hts _ kf_X5_31) (fun _ h9 => h9) rfl dX5_hang_44 ?_
            refine lv_iconst (v := 2) hx hb dX5_hang_47 (by decide) ?_
            refine lv_iload_n hx hb dX5_hang_48 rfl (lv_at hl 2 rfl) ?_
            refine lv_imul hx hb dX5_hang_49 ?_
            refine tp_i (z := (nI (2 * j))) (pk_mul 2 _) ?_
            refine lv_iload_n hx hb dX5_hang_50 rfl (lv_at hl 3 rfl) ?_
            refine lv_iadd hx hb dX5_hang_51 ?_
            refine tp_i (z := (nI (2 * j))) (Int32.add_zero _) ?_
            refine lv_iload_n hx hb dX5_hang_52 rfl (lv_at hl 4 rfl) ?_
            refine ar_p hx hb hK hP (hDD _) hS 8 rfl (x := (nI i)) (by omega) (by decide) dX5_hang_53 (fun H locs hP hS => ?_)
            have hP := (mix_u0 (sLf σ) (sRt σ) j (nI i)) ▸ hP
            have hP : va_P D vwCl (rW ad cA (σ.1, ((sLim σ), (sSm σ), (sNx σ), (upd (sLf σ) j (nI i)), (sRt σ), (sVc σ)), σ.2.2.1, σ.2.2.2.1, σ.2.2.2.2)) H := hP
            refine lv_iload hx hb dX5_hang_54 (lv_at hl 0 rfl) ?_
            exact rt_i (v := (sLf σ j)) (u := (σ.1, ((sLim σ), (sSm σ), (sNx σ), (upd (sLf σ) j (nI i)), (sRt σ), (sVc σ)), σ.2.2.1, σ.2.2.2.1, σ.2.2.2.2)) hx hb hr hlocks hS hP ((by rw [hang_ok h0 (Or.inl rfl) (Or.inr (ix_some_s hq))]; exact ⟨(hd_0 _ _).symm, by show _ = shk σ j 0 _; unfold shk; rw [if_pos rfl]⟩)) dX5_hang_56
          · skip
            refine lv_aload_n hx hb dX5_hang_31 rfl (lv_at hl 0 rfl) ?_
            refine va_get (D := D) (ci := 5) (v := .ref (ad 8)) (C := RX5) (T := TX5) (N := 20) hx hb hts in_X5 hown hK hP 0 rfl rfl 8 (by decide) (hts _ kf_X5_31) (fun _ h9 => h9) rfl dX5_hang_32 ?_
            refine lv_iconst (v := 2) hx hb dX5_hang_35 (by decide) ?_
            refine lv_iload_n hx hb dX5_hang_36 rfl (lv_at hl 1 rfl) ?_
            refine lv_imul hx hb dX5_hang_37 ?_
            refine tp_i (z := (nI (2 * j))) (pk_mul 2 _) ?_
            refine lv_iload_n hx hb dX5_hang_38 rfl (lv_at hl 2 rfl) ?_
            refine lv_iadd hx hb dX5_hang_39 ?_
            refine tp_i (z := (nI ((2 * j) + 1))) (nI_1 _) ?_
            refine ar_g hx hb hK hP 8 rfl (by omega) (by decide) dX5_hang_40 ?_
            refine tp_i (z := (sRt σ j)) (mix_1 _ _ _) ?_
            refine lv_istore (lv' := [(4, .int (sRt σ j)), (0, .ref (ad 0)), (1, .int (nI j)), (2, .int 1), (3, .int (nI i))]) hx hb dX5_hang_41 hl (by decide) rfl (fun ls hl => ?_)
            refine lv_aload_n hx hb dX5_hang_43 rfl (lv_at hl 1 rfl) ?_
            refine va_get (D := D) (ci := 5) (v := .ref (ad 8)) (C := RX5) (T := TX5) (N := 20) hx hb hts in_X5 hown hK hP 0 rfl rfl 8 (by decide) (hts _ kf_X5_31) (fun _ h9 => h9) rfl dX5_hang_44 ?_
            refine lv_iconst (v := 2) hx hb dX5_hang_47 (by decide) ?_
            refine lv_iload_n hx hb dX5_hang_48 rfl (lv_at hl 2 rfl) ?_
            refine lv_imul hx hb dX5_hang_49 ?_
            refine tp_i (z := (nI (2 * j))) (pk_mul 2 _) ?_
            refine lv_iload_n hx hb dX5_hang_50 rfl (lv_at hl 3 rfl) ?_
            refine lv_iadd hx hb dX5_hang_51 ?_
            refine tp_i (z := (nI ((2 * j) + 1))) (nI_1 _) ?_
            refine lv_iload_n hx hb dX5_hang_52 rfl (lv_at hl 4 rfl) ?_
            refine ar_p hx hb hK hP (hDD _) hS 8 rfl (x := (nI i)) (by omega) (by decide) dX5_hang_53 (fun H locs hP hS => ?_)
            have hP := (mix_u1 (sLf σ) (sRt σ) j (nI i)) ▸ hP
            have hP : va_P D vwCl (rW ad cA (σ.1, ((sLim σ), (sSm σ), (sNx σ), (sLf σ), (upd (sRt σ) j (nI i)), (sVc σ)), σ.2.2.1, σ.2.2.2.1, σ.2.2.2.2)) H := hP
            refine lv_iload hx hb dX5_hang_54 (lv_at hl 0 rfl) ?_
            exact rt_i (v := (sRt σ j)) (u := (σ.1, ((sLim σ), (sSm σ), (sNx σ), (sLf σ), (upd (sRt σ) j (nI i)), (sVc σ)), σ.2.2.1, σ.2.2.2.1, σ.2.2.2.2)) hx hb hr hlocks hS hP ((by rw [hang_ok h0 (Or.inr rfl) (Or.inr (ix_some_s hq))]; exact ⟨(hd_1 _ _).symm, by show _ = shk σ j 1 _; unfold shk; rw [if_neg (by decide)]⟩)) dX5_hang_56
    · skip
      refine lv_iload_n hx hb dX5_hang_8 rfl (lv_at hl 2 rfl) ?_
      refine cl_s (rest := []) (c_X5_isHand l D cA ad A hDD σ h ) ⟨hx, hb, hml, hown, hts⟩ hK hP hS kv_X5_70 ⟨Nat.le_of_ble_eq_true rfl, Nat.le_of_ble_eq_true rfl⟩ ⟨Nat.zero_le _, Nat.zero_le _⟩ rfl hl.1 rfl (Nat.le_of_ble_eq_true rfl) (fun q h => h) dX5_hang_9 (fun r u H locs hw hP hS => ?_)
      rw [hw.2] at hP
      refine tp_i (z := (bz (okh h))) hw.1 ?_
      refine tp_i (z := 0) (bz_0 hh) ?_
      refine lv_if_eq (tgt := 28) hx hb dX5_hang_12 (by decide) (fun _ => ?_) (fun c9 => absurd (by decide) c9)
      refine lv_bipush (v := (-2)) hx hb dX5_hang_28 (by decide) ?_
      exact rt_i (v := (-2)) (u := σ) hx hb hr hlocks hS hP (pr2 (hang_b2 h0 (fun q => hh q.1))) dX5_hang_30
set_option maxHeartbeats 4000000 in
set_option maxRecDepth 100000 in
theorem c_X5_link (l : Launch) (D : va_G) (cA : ClassId) (ad : Nat → Nat) (A : Nat → Prop) (hDD : ∀ u, va_D A (rW ad cA u)) (σ : CS) (v w : Int32) (hI : Inv σ) (hg : sGr σ = 0) (hb9 : sBc σ ≤ 1000000000) : Ct l D cA (rW ad cA) A yX5_link cX5_link 4 (some .int) 1 21 [.ref (ad 0), .int v, .int w] σ (fun r u => r = (f_link σ v w).1 ∧ u = (f_link σ v w).2) := by
  refine Ct.of (by decide) (Nat.le_of_ble_eq_true rfl) ?_
  intro p e s m below meth c ls S0 hr hlocks hK hP hS hl
  obtain ⟨hx, hb, hml, hown, hts⟩ := id S0
  have hl : lv_has ls 4 [(0, .ref (ad 0)), (1, .int v), (2, .int w)] := hl
  have hkc := hI.kc
  have hvc := hI.vc
  have hgc := hI.gr
  have htc := hI.tc
  rcases ix_cases (n := sVc σ) v (by omega) with h0 | ⟨j, hj, rfl⟩
  · refine lv_aload_n hx hb dX5_link_0 rfl (lv_at hl 0 rfl) ?_
    refine lv_iload_n hx hb dX5_link_1 rfl (lv_at hl 1 rfl) ?_
    refine cl_i (rest := []) (c_X5_isVault l D cA ad A hDD σ v ) ⟨hx, hb, hml, hown, hts⟩ hK hP hS kv_X5_67 ⟨Nat.le_of_ble_eq_true rfl, Nat.le_of_ble_eq_true rfl⟩ ⟨Nat.zero_le _, Nat.zero_le _⟩ 0 rfl rfl rfl hl.1 rfl (Nat.le_of_ble_eq_true rfl) (fun q h => h) dX5_link_2 (fun r u H locs hw hP hS _ => ?_)
    rw [hw.2] at hP
    refine tp_i (z := (hz (sVc σ) v)) hw.1 ?_
    refine tp_i (z := 0) (hz_0 h0) ?_
    refine lv_if_eq (tgt := 21) hx hb dX5_link_5 (by decide) (fun _ => ?_) (fun c9 => absurd (by decide) c9)
    refine lv_bipush (v := (-2)) hx hb dX5_link_21 (by decide) ?_
    exact rt_i (v := (-2)) (u := σ) hx hb hr hlocks hS hP (pr2 (link_b1 h0)) dX5_link_23
  · have h0 := ix_nI hj (n := sVc σ) (by omega)
    refine lv_aload_n hx hb dX5_link_0 rfl (lv_at hl 0 rfl) ?_
    refine lv_iload_n hx hb dX5_link_1 rfl (lv_at hl 1 rfl) ?_
    refine cl_i (rest := []) (c_X5_isVault l D cA ad A hDD σ (nI j) ) ⟨hx, hb, hml, hown, hts⟩ hK hP hS kv_X5_67 ⟨Nat.le_of_ble_eq_true rfl, Nat.le_of_ble_eq_true rfl⟩ ⟨Nat.zero_le _, Nat.zero_le _⟩ 0 rfl rfl rfl hl.1 rfl (Nat.le_of_ble_eq_true rfl) (fun q h => h) dX5_link_2 (fun r u H locs hw hP hS _ => ?_)
    rw [hw.2] at hP
    refine tp_i (z := (hz (sVc σ) (nI j))) hw.1 ?_
    refine tp_i (z := 1) (hz_1 h0) ?_
    refine lv_if_eq (tgt := 21) hx hb dX5_link_5 (by decide) (fun c9 => absurd c9 (by decide)) (fun _ => ?_)
    refine lv_iload_n hx hb dX5_link_8 rfl (lv_at hl 2 rfl) ?_
    refine lv_iconst (v := (-1)) hx hb dX5_link_9 (by decide) ?_
    refine lv_icmp_eq (tgt := 24) hx hb dX5_link_10 (by decide) (fun c10 => ?_) (fun c10 => ?_)
    · refine lv_aload_n hx hb dX5_link_24 rfl (lv_at hl 0 rfl) ?_
      refine va_get (D := D) (ci := 5) (v := .ref (ad 7)) (C := RX5) (T := TX5) (N := 20) hx hb hts in_X5 hown hK hP 0 rfl rfl 7 (by decide) (hts _ kf_X5_28) (fun _ h9 => h9) rfl dX5_link_25 ?_
      refine lv_iload_n hx hb dX5_link_28 rfl (lv_at hl 1 rfl) ?_
      refine ar_g hx hb hK hP 7 rfl (by omega) (by decide) dX5_link_29 ?_
      refine lv_istore_n (lv' := [(3, .int (sNx σ j)), (0, .ref (ad 0)), (1, .int (nI j)), (2, .int w)]) hx hb dX5_link_30 rfl hl (by decide) rfl (fun ls hl => ?_)
      refine lv_aload_n hx hb dX5_link_31 rfl (lv_at hl 1 rfl) ?_
      refine va_get (D := D) (ci := 5) (v := .ref (ad 7)) (C := RX5) (T := TX5) (N := 20) hx hb hts in_X5 hown hK hP 0 rfl rfl 7 (by decide) (hts _ kf_X5_28) (fun _ h9 => h9) rfl dX5_link_32 ?_
      refine lv_iload_n hx hb dX5_link_35 rfl (lv_at hl 2 rfl) ?_
      refine lv_iload_n hx hb dX5_link_36 rfl (lv_at hl 3 rfl) ?_
      refine ar_p hx hb hK hP (hDD _) hS 7 rfl (x := w) (by omega) (by decide) dX5_link_37 (fun H locs hP hS => ?_)
      have hP : va_P D vwCl (rW ad cA (σ.1, ((sLim σ), (sSm σ), (upd (sNx σ) j w), (sLf σ), (sRt σ), (sVc σ)), σ.2.2.1, σ.2.2.2.1, σ.2.2.2.2)) H := hP
      refine lv_iload_n hx hb dX5_link_38 rfl (lv_at hl 0 rfl) ?_
      exact rt_i (v := (sNx σ j)) (u := (σ.1, ((sLim σ), (sSm σ), (upd (sNx σ) j w), (sLf σ), (sRt σ), (sVc σ)), σ.2.2.1, σ.2.2.2.1, σ.2.2.2.2)) hx hb hr hlocks hS hP (pr2 (link_ok h0 (Or.inl c10))) dX5_link_39
    · rcases ix_cases (n := sVc σ) w (by omega) with hq | ⟨i, hi, rfl⟩
      · refine lv_aload_n hx hb dX5_link_13 rfl (lv_at hl 0 rfl) ?_
        refine lv_iload_n hx hb dX5_link_14 rfl (lv_at hl 2 rfl) ?_
        refine cl_i (rest := []) (c_X5_isVault l D cA ad A hDD σ w ) ⟨hx, hb, hml, hown, hts⟩ hK hP hS kv_X5_67 ⟨Nat.le_of_ble_eq_true rfl, Nat.le_of_ble_eq_true rfl⟩ ⟨Nat.zero_le _, Nat.zero_le _⟩ 0 rfl rfl rfl hl.1 rfl (Nat.le_of_ble_eq_true rfl) (fun q h => h) dX5_link_15 (fun r u H locs hw hP hS _ => ?_)
        rw [hw.2] at hP
        refine tp_i (z := (hz (sVc σ) w)) hw.1 ?_
        refine tp_i (z := 0) (hz_0 hq) ?_
        refine lv_if_ne (tgt := 24) hx hb dX5_link_18 (by decide) (fun c9 => absurd (by decide) c9) (fun _ => ?_)
        refine lv_bipush (v := (-2)) hx hb dX5_link_21 (by decide) ?_
        exact rt_i (v := (-2)) (u := σ) hx hb hr hlocks hS hP (pr2 (link_b2 h0 (fun q => q.elim c10 (ix_none_s hq)))) dX5_link_23
      · have hq := ix_nI hi (n := sVc σ) (by omega)
        refine lv_aload_n hx hb dX5_link_13 rfl (lv_at hl 0 rfl) ?_
        refine lv_iload_n hx hb dX5_link_14 rfl (lv_at hl 2 rfl) ?_
        refine cl_i (rest := []) (c_X5_isVault l D cA ad A hDD σ (nI i) ) ⟨hx, hb, hml, hown, hts⟩ hK hP hS kv_X5_67 ⟨Nat.le_of_ble_eq_true rfl, Nat.le_of_ble_eq_true rfl⟩ ⟨Nat.zero_le _, Nat.zero_le _⟩ 0 rfl rfl rfl hl.1 rfl (Nat.le_of_ble_eq_true rfl) (fun q h => h) dX5_link_15 (fun r u H locs hw hP hS _ => ?_)
        rw [hw.2] at hP
        refine tp_i (z := (hz (sVc σ) (nI i))) hw.1 ?_
        refine tp_i (z := 1) (hz_1 hq) ?_
        refine lv_if_ne (tgt := 24) hx hb dX5_link_18 (by decide) (fun _ => ?_) (fun c9 => absurd c9 (by decide))
        refine lv_aload_n hx hb dX5_link_24 rfl (lv_at hl 0 rfl) ?_
        refine va_get (D := D) (ci := 5) (v := .ref (ad 7)) (C := RX5) (T := TX5) (N := 20) hx hb hts in_X5 hown hK hP 0 rfl rfl 7 (by decide) (hts _ kf_X5_28) (fun _ h9 => h9) rfl dX5_link_25 ?_
        refine lv_iload_n hx hb dX5_link_28 rfl (lv_at hl 1 rfl) ?_
        refine ar_g hx hb hK hP 7 rfl (by omega) (by decide) dX5_link_29 ?_
        refine lv_istore_n (lv' := [(3, .int (sNx σ j)), (0, .ref (ad 0)), (1, .int (nI j)), (2, .int (nI i))]) hx hb dX5_link_30 rfl hl (by decide) rfl (fun ls hl => ?_)
        refine lv_aload_n hx hb dX5_link_31 rfl (lv_at hl 1 rfl) ?_
        refine va_get (D := D) (ci := 5) (v := .ref (ad 7)) (C := RX5) (T := TX5) (N := 20) hx hb hts in_X5 hown hK hP 0 rfl rfl 7 (by decide) (hts _ kf_X5_28) (fun _ h9 => h9) rfl dX5_link_32 ?_
        refine lv_iload_n hx hb dX5_link_35 rfl (lv_at hl 2 rfl) ?_
        refine lv_iload_n hx hb dX5_link_36 rfl (lv_at hl 3 rfl) ?_
        refine ar_p hx hb hK hP (hDD _) hS 7 rfl (x := (nI i)) (by omega) (by decide) dX5_link_37 (fun H locs hP hS => ?_)
        have hP : va_P D vwCl (rW ad cA (σ.1, ((sLim σ), (sSm σ), (upd (sNx σ) j (nI i)), (sLf σ), (sRt σ), (sVc σ)), σ.2.2.1, σ.2.2.2.1, σ.2.2.2.2)) H := hP
        refine lv_iload_n hx hb dX5_link_38 rfl (lv_at hl 0 rfl) ?_
        exact rt_i (v := (sNx σ j)) (u := (σ.1, ((sLim σ), (sSm σ), (upd (sNx σ) j (nI i)), (sLf σ), (sRt σ), (sVc σ)), σ.2.2.1, σ.2.2.2.1, σ.2.2.2.2)) hx hb hr hlocks hS hP (pr2 (link_ok h0 (Or.inr (ix_some_s hq)))) dX5_link_39
set_option maxHeartbeats 4000000 in
set_option maxRecDepth 100000 in
theorem c_X5_put (l : Launch) (D : va_G) (cA : ClassId) (ad : Nat → Nat) (A : Nat → Prop) (hDD : ∀ u, va_D A (rW ad cA u)) (σ : CS) (v n : Int32) (hI : Inv σ) (hg : sGr σ = 0) (hb9 : sBc σ ≤ 1000000000) : Ct l D cA (rW ad cA) A yX5_put cX5_put 4 (some .int) 7 150 [.ref (ad 0), .int v, .int n] σ (fun r u => r = (f_put σ v n).1 ∧ u = (f_put σ v n).2) := by
  refine Ct.of (by decide) (Nat.le_of_ble_eq_true rfl) ?_
  intro p e s m below meth c ls S0 hr hlocks hK hP hS hl
  obtain ⟨hx, hb, hml, hown, hts⟩ := id S0
  have hl : lv_has ls 4 [(0, .ref (ad 0)), (1, .int v), (2, .int n)] := hl
  have hkc := hI.kc
  have hvc := hI.vc
  have hgc := hI.gr
  have htc := hI.tc
  rcases ix_cases (n := sVc σ) v (by omega) with h0 | ⟨j, hj, rfl⟩
  · refine lv_aload_n hx hb dX5_put_0 rfl (lv_at hl 0 rfl) ?_
    refine lv_iload_n hx hb dX5_put_1 rfl (lv_at hl 1 rfl) ?_
    refine cl_i (rest := []) (c_X5_isVault l D cA ad A hDD σ v ) ⟨hx, hb, hml, hown, hts⟩ hK hP hS kv_X5_67 ⟨Nat.le_of_ble_eq_true rfl, Nat.le_of_ble_eq_true rfl⟩ ⟨Nat.zero_le _, Nat.zero_le _⟩ 0 rfl rfl rfl hl.1 rfl (Nat.le_of_ble_eq_true rfl) (fun q h => h) dX5_put_2 (fun r u H locs hw hP hS _ => ?_)
    rw [hw.2] at hP
    refine tp_i (z := (hz (sVc σ) v)) hw.1 ?_
    refine tp_i (z := 0) (hz_0 h0) ?_
    refine lv_if_eq (tgt := 15) hx hb dX5_put_5 (by decide) (fun _ => ?_) (fun c9 => absurd (by decide) c9)
    refine lv_bipush (v := (-2)) hx hb dX5_put_15 (by decide) ?_
    exact rt_i (v := (-2)) (u := σ) hx hb hr hlocks hS hP (pr2 (put_b1 h0)) dX5_put_17
  · have h0 := ix_nI hj (n := sVc σ) (by omega)
    refine lv_aload_n hx hb dX5_put_0 rfl (lv_at hl 0 rfl) ?_
    refine lv_iload_n hx hb dX5_put_1 rfl (lv_at hl 1 rfl) ?_
    refine cl_i (rest := []) (c_X5_isVault l D cA ad A hDD σ (nI j) ) ⟨hx, hb, hml, hown, hts⟩ hK hP hS kv_X5_67 ⟨Nat.le_of_ble_eq_true rfl, Nat.le_of_ble_eq_true rfl⟩ ⟨Nat.zero_le _, Nat.zero_le _⟩ 0 rfl rfl rfl hl.1 rfl (Nat.le_of_ble_eq_true rfl) (fun q h => h) dX5_put_2 (fun r u H locs hw hP hS _ => ?_)
    rw [hw.2] at hP
    refine tp_i (z := (hz (sVc σ) (nI j))) hw.1 ?_
    refine tp_i (z := 1) (hz_1 h0) ?_
    refine lv_if_eq (tgt := 15) hx hb dX5_put_5 (by decide) (fun c9 => absurd c9 (by decide)) (fun _ => ?_)
    by_cases hn : amt n
    · skip
      refine lv_iload_n hx hb dX5_put_8 rfl (lv_at hl 2 rfl) ?_
      refine cl_s (rest := []) (c_X5_isAmount l D cA ad A hDD σ n ) ⟨hx, hb, hml, hown, hts⟩ hK hP hS kv_X5_63 ⟨Nat.le_of_ble_eq_true rfl, Nat.le_of_ble_eq_true rfl⟩ ⟨Nat.zero_le _, Nat.zero_le _⟩ rfl hl.1 rfl (Nat.le_of_ble_eq_true rfl) (fun q h => h) dX5_put_9 (fun r u H locs hw hP hS => ?_)
      rw [hw.2] at hP
      refine tp_i (z := (bz (amt n))) hw.1 ?_
      refine tp_i (z := 1) (bz_1 hn) ?_
      refine lv_if_ne (tgt := 18) hx hb dX5_put_12 (by decide) (fun _ => ?_) (fun c9 => absurd c9 (by decide))
      refine lv_aload_n hx hb dX5_put_18 rfl (lv_at hl 0 rfl) ?_
      refine lv_iload_n hx hb dX5_put_19 rfl (lv_at hl 1 rfl) ?_
      refine cl_i (rest := []) (c_X5_turnBoth l D cA ad A hDD σ j  hI hj (by omega) (by omega)) ⟨hx, hb, hml, hown, hts⟩ hK hP hS kv_X5_103 ⟨Nat.le_of_ble_eq_true rfl, Nat.le_of_ble_eq_true rfl⟩ ⟨Nat.zero_le _, Nat.zero_le _⟩ 0 rfl rfl rfl hl.1 rfl (Nat.le_of_ble_eq_true rfl) (fun q h => h) dX5_put_20 (fun r u H locs hw hP hS _ => ?_)
      rw [hw.2] at hP
      refine tp_i (z := (tb σ j).1) hw.1 ?_
      refine lv_istore_n (lv' := [(3, .int (tb σ j).1), (0, .ref (ad 0)), (1, .int (nI j)), (2, .int n)]) hx hb dX5_put_23 rfl hl (by decide) rfl (fun ls hl => ?_)
      refine lv_iload_n hx hb dX5_put_24 rfl (lv_at hl 0 rfl) ?_
      refine lv_if_eq (tgt := 30) hx hb dX5_put_25 (by decide) (fun c25 => ?_) (fun c25 => ?_)
      · have st1 := tb_st (v := j) hI hj (by omega)
        have b1 := st1.2.2.2.2
        have hj1 : j < sVc (tb σ j).2 := by rw [st1.2.1]; exact hj
        have hvc1 := st1.1.vc
        by_cases hc : sLim (tb σ j).2 j < sSm (tb σ j).2 j + n
        · skip
          refine lv_aload_n hx hb dX5_put_30 rfl (lv_at hl 1 rfl) ?_
          refine va_get (D := D) (ci := 5) (v := .ref (ad 5)) (C := RX5) (T := TX5) (N := 20) hx hb hts in_X5 hown hK hP 0 rfl rfl 5 (by decide) (hts _ kf_X5_22) (fun _ h9 => h9) rfl dX5_put_31 ?_
          refine lv_iload_n hx hb dX5_put_34 rfl (lv_at hl 2 rfl) ?_
          refine ar_g hx hb hK hP 5 rfl (by omega) (by decide) dX5_put_35 ?_
          refine lv_iload_n hx hb dX5_put_36 rfl (lv_at hl 3 rfl) ?_
          refine lv_iadd hx hb dX5_put_37 ?_
          refine lv_aload_n hx hb dX5_put_38 rfl (lv_at hl 1 rfl) ?_
          refine va_get (D := D) (ci := 5) (v := .ref (ad 6)) (C := RX5) (T := TX5) (N := 20) hx hb hts in_X5 hown hK hP 0 rfl rfl 6 (by decide) (hts _ kf_X5_25) (fun _ h9 => h9) rfl dX5_put_39 ?_
          refine lv_iload_n hx hb dX5_put_42 rfl (lv_at hl 2 rfl) ?_
          refine ar_g hx hb hK hP 6 rfl (by omega) (by decide) dX5_put_43 ?_
          refine lv_icmp_le (tgt := 54) hx hb dX5_put_44 (by decide) (fun c9 => absurd c9 (i_nle.mpr hc)) (fun _ => ?_)
          refine lv_aload_n hx hb dX5_put_47 rfl (lv_at hl 1 rfl) ?_
          refine lv_bipush (v := (-5)) hx hb dX5_put_48 (by decide) ?_
          refine cl_i (rest := []) (c_X5_answered l D cA ad A hDD (tb σ j).2 (-5) st1.1 (by omega)) ⟨hx, hb, hml, hown, hts⟩ hK hP hS kv_X5_106 ⟨Nat.le_of_ble_eq_true rfl, Nat.le_of_ble_eq_true rfl⟩ ⟨Nat.zero_le _, Nat.zero_le _⟩ 0 rfl rfl rfl hl.1 rfl (Nat.le_of_ble_eq_true rfl) (fun q h => h) dX5_put_50 (fun r u H locs hw hP hS _ => ?_)
          rw [hw.2] at hP
          refine tp_i (z := (-5)) hw.1 ?_
          exact rt_i (v := (-5)) (u := (da 300 (tb σ j).2)) hx hb hr hlocks hS hP ((by rw [put_g h0 hn]; unfold g_put; rw [if_pos c25, if_pos hc]; exact ⟨rfl, rfl⟩)) dX5_put_53
        · skip
          refine lv_aload_n hx hb dX5_put_30 rfl (lv_at hl 1 rfl) ?_
          refine va_get (D := D) (ci := 5) (v := .ref (ad 5)) (C := RX5) (T := TX5) (N := 20) hx hb hts in_X5 hown hK hP 0 rfl rfl 5 (by decide) (hts _ kf_X5_22) (fun _ h9 => h9) rfl dX5_put_31 ?_
          refine lv_iload_n hx hb dX5_put_34 rfl (lv_at hl 2 rfl) ?_
          refine ar_g hx hb hK hP 5 rfl (by omega) (by decide) dX5_put_35 ?_
          refine lv_iload_n hx hb dX5_put_36 rfl (lv_at hl 3 rfl) ?_
          refine lv_iadd hx hb dX5_put_37 ?_
          refine lv_aload_n hx hb dX5_put_38 rfl (lv_at hl 1 rfl) ?_
          refine va_get (D := D) (ci := 5) (v := .ref (ad 6)) (C := RX5) (T := TX5) (N := 20) hx hb hts in_X5 hown hK hP 0 rfl rfl 6 (by decide) (hts _ kf_X5_25) (fun _ h9 => h9) rfl dX5_put_39 ?_
          refine lv_iload_n hx hb dX5_put_42 rfl (lv_at hl 2 rfl) ?_
          refine ar_g hx hb hK hP 6 rfl (by omega) (by decide) dX5_put_43 ?_
          refine lv_icmp_le (tgt := 54) hx hb dX5_put_44 (by decide) (fun _ => ?_) (fun c9 => absurd (i_nlt.mp hc) c9)
          refine lv_aload_n hx hb dX5_put_54 rfl (lv_at hl 1 rfl) ?_
          refine va_get (D := D) (ci := 5) (v := .ref (ad 5)) (C := RX5) (T := TX5) (N := 20) hx hb hts in_X5 hown hK hP 0 rfl rfl 5 (by decide) (hts _ kf_X5_22) (fun _ h9 => h9) rfl dX5_put_55 ?_
          refine lv_iload_n hx hb dX5_put_58 rfl (lv_at hl 2 rfl) ?_
          refine lv_dup2_11 hx hb dX5_put_59 rfl rfl ?_
          refine ar_g hx hb hK hP 5 rfl (by omega) (by decide) dX5_put_60 ?_
          refine lv_iload_n hx hb dX5_put_61 rfl (lv_at hl 3 rfl) ?_
          refine lv_iadd hx hb dX5_put_62 ?_
          refine ar_p hx hb hK hP (hDD _) hS 5 rfl (x := ((sSm (tb σ j).2 j) + n)) (by omega) (by decide) dX5_put_63 (fun H locs hP hS => ?_)
          have hP : va_P D vwCl (rW ad cA ((tb σ j).2.1, ((sLim (tb σ j).2), (upd (sSm (tb σ j).2) j ((sSm (tb σ j).2 j) + n)), (sNx (tb σ j).2), (sLf (tb σ j).2), (sRt (tb σ j).2), (sVc (tb σ j).2)), (tb σ j).2.2.2.1, (tb σ j).2.2.2.2.1, (tb σ j).2.2.2.2.2)) H := hP
          refine lv_aload_n hx hb dX5_put_64 rfl (lv_at hl 1 rfl) ?_
          refine lv_aload_n hx hb dX5_put_65 rfl (lv_at hl 1 rfl) ?_
          refine va_get (D := D) (ci := 5) (v := .ref (ad 5)) (C := RX5) (T := TX5) (N := 20) hx hb hts in_X5 hown hK hP 0 rfl rfl 5 (by decide) (hts _ kf_X5_22) (fun _ h9 => h9) rfl dX5_put_66 ?_
          refine lv_iload_n hx hb dX5_put_69 rfl (lv_at hl 2 rfl) ?_
          refine ar_g hx hb hK hP 5 rfl (by omega) (by decide) dX5_put_70 ?_
          refine tp_i (z := ((sSm (tb σ j).2 j) + n)) upd_eq ?_
          refine cl_i (rest := []) (c_X5_ended l D cA ad A hDD ((tb σ j).2.1, ((sLim (tb σ j).2), (upd (sSm (tb σ j).2) j ((sSm (tb σ j).2 j) + n)), (sNx (tb σ j).2), (sLf (tb σ j).2), (sRt (tb σ j).2), (sVc (tb σ j).2)), (tb σ j).2.2.2.1, (tb σ j).2.2.2.2.1, (tb σ j).2.2.2.2.2) ((sSm (tb σ j).2 j) + n) (put_inv st1.1 hj1 hn hc) (by show sBc (tb σ j).2 + sGr (tb σ j).2 < 2147483647; omega)) ⟨hx, hb, hml, hown, hts⟩ hK hP hS kv_X5_109 ⟨Nat.le_of_ble_eq_true rfl, Nat.le_of_ble_eq_true rfl⟩ ⟨Nat.zero_le _, Nat.zero_le _⟩ 0 rfl rfl rfl hl.1 rfl (Nat.le_of_ble_eq_true rfl) (fun q h => h) dX5_put_71 (fun r u H locs hw hP hS _ => ?_)
          rw [hw.2] at hP
          refine tp_i (z := ((sSm (tb σ j).2 j) + n)) hw.1 ?_
          exact rt_i (v := ((sSm (tb σ j).2 j) + n)) (u := (da 200 ((tb σ j).2.1, ((sLim (tb σ j).2), (upd (sSm (tb σ j).2) j ((sSm (tb σ j).2 j) + n)), (sNx (tb σ j).2), (sLf (tb σ j).2), (sRt (tb σ j).2), (sVc (tb σ j).2)), (tb σ j).2.2.2.1, (tb σ j).2.2.2.2.1, (tb σ j).2.2.2.2.2))) hx hb hr hlocks hS hP ((by rw [put_g h0 hn]; unfold g_put; rw [if_pos c25, if_neg hc]; exact ⟨rfl, rfl⟩)) dX5_put_74
      · refine lv_iload_n hx hb dX5_put_28 rfl (lv_at hl 0 rfl) ?_
        exact rt_i (v := (tb σ j).1) (u := (tb σ j).2) hx hb hr hlocks hS hP ((by rw [put_g h0 hn]; unfold g_put; rw [if_neg c25]; exact ⟨rfl, rfl⟩)) dX5_put_29
    · skip
      refine lv_iload_n hx hb dX5_put_8 rfl (lv_at hl 2 rfl) ?_
      refine cl_s (rest := []) (c_X5_isAmount l D cA ad A hDD σ n ) ⟨hx, hb, hml, hown, hts⟩ hK hP hS kv_X5_63 ⟨Nat.le_of_ble_eq_true rfl, Nat.le_of_ble_eq_true rfl⟩ ⟨Nat.zero_le _, Nat.zero_le _⟩ rfl hl.1 rfl (Nat.le_of_ble_eq_true rfl) (fun q h => h) dX5_put_9 (fun r u H locs hw hP hS => ?_)
      rw [hw.2] at hP
      refine tp_i (z := (bz (amt n))) hw.1 ?_
      refine tp_i (z := 0) (bz_0 hn) ?_
      refine lv_if_ne (tgt := 18) hx hb dX5_put_12 (by decide) (fun c9 => absurd (by decide) c9) (fun _ => ?_)
      refine lv_bipush (v := (-2)) hx hb dX5_put_15 (by decide) ?_
      exact rt_i (v := (-2)) (u := σ) hx hb hr hlocks hS hP (pr2 (put_b2 h0 hn)) dX5_put_17
set_option maxHeartbeats 4000000 in
set_option maxRecDepth 100000 in
theorem c_X5_take (l : Launch) (D : va_G) (cA : ClassId) (ad : Nat → Nat) (A : Nat → Prop) (hDD : ∀ u, va_D A (rW ad cA u)) (σ : CS) (v n : Int32) (hI : Inv σ) (hg : sGr σ = 0) (hb9 : sBc σ ≤ 1000000000) : Ct l D cA (rW ad cA) A yX5_take cX5_take 4 (some .int) 7 150 [.ref (ad 0), .int v, .int n] σ (fun r u => r = (f_take σ v n).1 ∧ u = (f_take σ v n).2) := by
  refine Ct.of (by decide) (Nat.le_of_ble_eq_true rfl) ?_
  intro p e s m below meth c ls S0 hr hlocks hK hP hS hl
  obtain ⟨hx, hb, hml, hown, hts⟩ := id S0
  have hl : lv_has ls 4 [(0, .ref (ad 0)), (1, .int v), (2, .int n)] := hl
  have hkc := hI.kc
  have hvc := hI.vc
  have hgc := hI.gr
  have htc := hI.tc
  rcases ix_cases (n := sVc σ) v (by omega) with h0 | ⟨j, hj, rfl⟩
  · refine lv_aload_n hx hb dX5_take_0 rfl (lv_at hl 0 rfl) ?_
    refine lv_iload_n hx hb dX5_take_1 rfl (lv_at hl 1 rfl) ?_
    refine cl_i (rest := []) (c_X5_isVault l D cA ad A hDD σ v ) ⟨hx, hb, hml, hown, hts⟩ hK hP hS kv_X5_67 ⟨Nat.le_of_ble_eq_true rfl, Nat.le_of_ble_eq_true rfl⟩ ⟨Nat.zero_le _, Nat.zero_le _⟩ 0 rfl rfl rfl hl.1 rfl (Nat.le_of_ble_eq_true rfl) (fun q h => h) dX5_take_2 (fun r u H locs hw hP hS _ => ?_)
    rw [hw.2] at hP
    refine tp_i (z := (hz (sVc σ) v)) hw.1 ?_
    refine tp_i (z := 0) (hz_0 h0) ?_
    refine lv_if_eq (tgt := 15) hx hb dX5_take_5 (by decide) (fun _ => ?_) (fun c9 => absurd (by decide) c9)
    refine lv_bipush (v := (-2)) hx hb dX5_take_15 (by decide) ?_
    exact rt_i (v := (-2)) (u := σ) hx hb hr hlocks hS hP (pr2 (take_b1 h0)) dX5_take_17
  · have h0 := ix_nI hj (n := sVc σ) (by omega)
    refine lv_aload_n hx hb dX5_take_0 rfl (lv_at hl 0 rfl) ?_
    refine lv_iload_n hx hb dX5_take_1 rfl (lv_at hl 1 rfl) ?_
    refine cl_i (rest := []) (c_X5_isVault l D cA ad A hDD σ (nI j) ) ⟨hx, hb, hml, hown, hts⟩ hK hP hS kv_X5_67 ⟨Nat.le_of_ble_eq_true rfl, Nat.le_of_ble_eq_true rfl⟩ ⟨Nat.zero_le _, Nat.zero_le _⟩ 0 rfl rfl rfl hl.1 rfl (Nat.le_of_ble_eq_true rfl) (fun q h => h) dX5_take_2 (fun r u H locs hw hP hS _ => ?_)
    rw [hw.2] at hP
    refine tp_i (z := (hz (sVc σ) (nI j))) hw.1 ?_
    refine tp_i (z := 1) (hz_1 h0) ?_
    refine lv_if_eq (tgt := 15) hx hb dX5_take_5 (by decide) (fun c9 => absurd c9 (by decide)) (fun _ => ?_)
    by_cases hn : amt n
    · skip
      refine lv_iload_n hx hb dX5_take_8 rfl (lv_at hl 2 rfl) ?_
      refine cl_s (rest := []) (c_X5_isAmount l D cA ad A hDD σ n ) ⟨hx, hb, hml, hown, hts⟩ hK hP hS kv_X5_63 ⟨Nat.le_of_ble_eq_true rfl, Nat.le_of_ble_eq_true rfl⟩ ⟨Nat.zero_le _, Nat.zero_le _⟩ rfl hl.1 rfl (Nat.le_of_ble_eq_true rfl) (fun q h => h) dX5_take_9 (fun r u H locs hw hP hS => ?_)
      rw [hw.2] at hP
      refine tp_i (z := (bz (amt n))) hw.1 ?_
      refine tp_i (z := 1) (bz_1 hn) ?_
      refine lv_if_ne (tgt := 18) hx hb dX5_take_12 (by decide) (fun _ => ?_) (fun c9 => absurd c9 (by decide))
      refine lv_aload_n hx hb dX5_take_18 rfl (lv_at hl 0 rfl) ?_
      refine lv_iload_n hx hb dX5_take_19 rfl (lv_at hl 1 rfl) ?_
      refine cl_i (rest := []) (c_X5_turnBoth l D cA ad A hDD σ j  hI hj (by omega) (by omega)) ⟨hx, hb, hml, hown, hts⟩ hK hP hS kv_X5_103 ⟨Nat.le_of_ble_eq_true rfl, Nat.le_of_ble_eq_true rfl⟩ ⟨Nat.zero_le _, Nat.zero_le _⟩ 0 rfl rfl rfl hl.1 rfl (Nat.le_of_ble_eq_true rfl) (fun q h => h) dX5_take_20 (fun r u H locs hw hP hS _ => ?_)
      rw [hw.2] at hP
      refine tp_i (z := (tb σ j).1) hw.1 ?_
      refine lv_istore_n (lv' := [(3, .int (tb σ j).1), (0, .ref (ad 0)), (1, .int (nI j)), (2, .int n)]) hx hb dX5_take_23 rfl hl (by decide) rfl (fun ls hl => ?_)
      refine lv_iload_n hx hb dX5_take_24 rfl (lv_at hl 0 rfl) ?_
      refine lv_if_eq (tgt := 30) hx hb dX5_take_25 (by decide) (fun c25 => ?_) (fun c25 => ?_)
      · have st1 := tb_st (v := j) hI hj (by omega)
        have b1 := st1.2.2.2.2
        have hj1 : j < sVc (tb σ j).2 := by rw [st1.2.1]; exact hj
        have hvc1 := st1.1.vc
        by_cases hc : sSm (tb σ j).2 j < n
        · skip
          refine lv_aload_n hx hb dX5_take_30 rfl (lv_at hl 1 rfl) ?_
          refine va_get (D := D) (ci := 5) (v := .ref (ad 5)) (C := RX5) (T := TX5) (N := 20) hx hb hts in_X5 hown hK hP 0 rfl rfl 5 (by decide) (hts _ kf_X5_22) (fun _ h9 => h9) rfl dX5_take_31 ?_
          refine lv_iload_n hx hb dX5_take_34 rfl (lv_at hl 2 rfl) ?_
          refine ar_g hx hb hK hP 5 rfl (by omega) (by decide) dX5_take_35 ?_
          refine lv_iload_n hx hb dX5_take_36 rfl (lv_at hl 3 rfl) ?_
          refine lv_icmp_ge (tgt := 47) hx hb dX5_take_37 (by decide) (fun c9 => absurd c9 (i_nle.mpr hc)) (fun _ => ?_)
          refine lv_aload_n hx hb dX5_take_40 rfl (lv_at hl 1 rfl) ?_
          refine lv_bipush (v := (-6)) hx hb dX5_take_41 (by decide) ?_
          refine cl_i (rest := []) (c_X5_alarmed l D cA ad A hDD (tb σ j).2 (-6) st1.1 (by omega)) ⟨hx, hb, hml, hown, hts⟩ hK hP hS kv_X5_112 ⟨Nat.le_of_ble_eq_true rfl, Nat.le_of_ble_eq_true rfl⟩ ⟨Nat.zero_le _, Nat.zero_le _⟩ 0 rfl rfl rfl hl.1 rfl (Nat.le_of_ble_eq_true rfl) (fun q h => h) dX5_take_43 (fun r u H locs hw hP hS _ => ?_)
          rw [hw.2] at hP
          refine tp_i (z := (-6)) hw.1 ?_
          exact rt_i (v := (-6)) (u := (ra (tb σ j).2)) hx hb hr hlocks hS hP ((by rw [take_g h0 hn]; unfold g_take; rw [if_pos c25, if_pos hc]; exact ⟨rfl, rfl⟩)) dX5_take_46
        · skip
          refine lv_aload_n hx hb dX5_take_30 rfl (lv_at hl 1 rfl) ?_
          refine va_get (D := D) (ci := 5) (v := .ref (ad 5)) (C := RX5) (T := TX5) (N := 20) hx hb hts in_X5 hown hK hP 0 rfl rfl 5 (by decide) (hts _ kf_X5_22) (fun _ h9 => h9) rfl dX5_take_31 ?_
          refine lv_iload_n hx hb dX5_take_34 rfl (lv_at hl 2 rfl) ?_
          refine ar_g hx hb hK hP 5 rfl (by omega) (by decide) dX5_take_35 ?_
          refine lv_iload_n hx hb dX5_take_36 rfl (lv_at hl 3 rfl) ?_
          refine lv_icmp_ge (tgt := 47) hx hb dX5_take_37 (by decide) (fun _ => ?_) (fun c9 => absurd (i_nlt.mp hc) c9)
          refine lv_aload_n hx hb dX5_take_47 rfl (lv_at hl 1 rfl) ?_
          refine va_get (D := D) (ci := 5) (v := .ref (ad 5)) (C := RX5) (T := TX5) (N := 20) hx hb hts in_X5 hown hK hP 0 rfl rfl 5 (by decide) (hts _ kf_X5_22) (fun _ h9 => h9) rfl dX5_take_48 ?_
          refine lv_iload_n hx hb dX5_take_51 rfl (lv_at hl 2 rfl) ?_
          refine lv_dup2_11 hx hb dX5_take_52 rfl rfl ?_
          refine ar_g hx hb hK hP 5 rfl (by omega) (by decide) dX5_take_53 ?_
          refine lv_iload_n hx hb dX5_take_54 rfl (lv_at hl 3 rfl) ?_
          refine lv_isub hx hb dX5_take_55 ?_
          refine ar_p hx hb hK hP (hDD _) hS 5 rfl (x := ((sSm (tb σ j).2 j) - n)) (by omega) (by decide) dX5_take_56 (fun H locs hP hS => ?_)
          have hP : va_P D vwCl (rW ad cA ((tb σ j).2.1, ((sLim (tb σ j).2), (upd (sSm (tb σ j).2) j ((sSm (tb σ j).2 j) - n)), (sNx (tb σ j).2), (sLf (tb σ j).2), (sRt (tb σ j).2), (sVc (tb σ j).2)), (tb σ j).2.2.2.1, (tb σ j).2.2.2.2.1, (tb σ j).2.2.2.2.2)) H := hP
          refine lv_aload_n hx hb dX5_take_57 rfl (lv_at hl 1 rfl) ?_
          refine lv_aload_n hx hb dX5_take_58 rfl (lv_at hl 1 rfl) ?_
          refine va_get (D := D) (ci := 5) (v := .ref (ad 5)) (C := RX5) (T := TX5) (N := 20) hx hb hts in_X5 hown hK hP 0 rfl rfl 5 (by decide) (hts _ kf_X5_22) (fun _ h9 => h9) rfl dX5_take_59 ?_
          refine lv_iload_n hx hb dX5_take_62 rfl (lv_at hl 2 rfl) ?_
          refine ar_g hx hb hK hP 5 rfl (by omega) (by decide) dX5_take_63 ?_
          refine tp_i (z := ((sSm (tb σ j).2 j) - n)) upd_eq ?_
          refine cl_i (rest := []) (c_X5_ended l D cA ad A hDD ((tb σ j).2.1, ((sLim (tb σ j).2), (upd (sSm (tb σ j).2) j ((sSm (tb σ j).2 j) - n)), (sNx (tb σ j).2), (sLf (tb σ j).2), (sRt (tb σ j).2), (sVc (tb σ j).2)), (tb σ j).2.2.2.1, (tb σ j).2.2.2.2.1, (tb σ j).2.2.2.2.2) ((sSm (tb σ j).2 j) - n) (take_inv st1.1 hj1 hn hc) (by show sBc (tb σ j).2 + sGr (tb σ j).2 < 2147483647; omega)) ⟨hx, hb, hml, hown, hts⟩ hK hP hS kv_X5_109 ⟨Nat.le_of_ble_eq_true rfl, Nat.le_of_ble_eq_true rfl⟩ ⟨Nat.zero_le _, Nat.zero_le _⟩ 0 rfl rfl rfl hl.1 rfl (Nat.le_of_ble_eq_true rfl) (fun q h => h) dX5_take_64 (fun r u H locs hw hP hS _ => ?_)
          rw [hw.2] at hP
          refine tp_i (z := ((sSm (tb σ j).2 j) - n)) hw.1 ?_
          exact rt_i (v := ((sSm (tb σ j).2 j) - n)) (u := (da 200 ((tb σ j).2.1, ((sLim (tb σ j).2), (upd (sSm (tb σ j).2) j ((sSm (tb σ j).2 j) - n)), (sNx (tb σ j).2), (sLf (tb σ j).2), (sRt (tb σ j).2), (sVc (tb σ j).2)), (tb σ j).2.2.2.1, (tb σ j).2.2.2.2.1, (tb σ j).2.2.2.2.2))) hx hb hr hlocks hS hP ((by rw [take_g h0 hn]; unfold g_take; rw [if_pos c25, if_neg hc]; exact ⟨rfl, rfl⟩)) dX5_take_67
      · refine lv_iload_n hx hb dX5_take_28 rfl (lv_at hl 0 rfl) ?_
        exact rt_i (v := (tb σ j).1) (u := (tb σ j).2) hx hb hr hlocks hS hP ((by rw [take_g h0 hn]; unfold g_take; rw [if_neg c25]; exact ⟨rfl, rfl⟩)) dX5_take_29
    · skip
      refine lv_iload_n hx hb dX5_take_8 rfl (lv_at hl 2 rfl) ?_
      refine cl_s (rest := []) (c_X5_isAmount l D cA ad A hDD σ n ) ⟨hx, hb, hml, hown, hts⟩ hK hP hS kv_X5_63 ⟨Nat.le_of_ble_eq_true rfl, Nat.le_of_ble_eq_true rfl⟩ ⟨Nat.zero_le _, Nat.zero_le _⟩ rfl hl.1 rfl (Nat.le_of_ble_eq_true rfl) (fun q h => h) dX5_take_9 (fun r u H locs hw hP hS => ?_)
      rw [hw.2] at hP
      refine tp_i (z := (bz (amt n))) hw.1 ?_
      refine tp_i (z := 0) (bz_0 hn) ?_
      refine lv_if_ne (tgt := 18) hx hb dX5_take_12 (by decide) (fun c9 => absurd (by decide) c9) (fun _ => ?_)
      refine lv_bipush (v := (-2)) hx hb dX5_take_15 (by decide) ?_
      exact rt_i (v := (-2)) (u := σ) hx hb hr hlocks hS hP (pr2 (take_b2 h0 hn)) dX5_take_17
set_option maxHeartbeats 4000000 in
set_option maxRecDepth 100000 in
theorem c_X5_split (l : Launch) (D : va_G) (cA : ClassId) (ad : Nat → Nat) (A : Nat → Prop) (hDD : ∀ u, va_D A (rW ad cA u)) (σ : CS) (v n : Int32) (hI : Inv σ) (hg : sGr σ = 0) (hb9 : sBc σ ≤ 1000000000) : Ct l D cA (rW ad cA) A yX5_split cX5_split 4 (some .int) 7 150 [.ref (ad 0), .int v, .int n] σ (fun r u => r = (f_split σ v n).1 ∧ u = (f_split σ v n).2) := by
  refine Ct.of (by decide) (Nat.le_of_ble_eq_true rfl) ?_
  intro p e s m below meth c ls S0 hr hlocks hK hP hS hl
  obtain ⟨hx, hb, hml, hown, hts⟩ := id S0
  have hl : lv_has ls 4 [(0, .ref (ad 0)), (1, .int v), (2, .int n)] := hl
  have hkc := hI.kc
  have hvc := hI.vc
  have hgc := hI.gr
  have htc := hI.tc
  rcases ix_cases (n := sVc σ) v (by omega) with h0 | ⟨j, hj, rfl⟩
  · refine lv_aload_n hx hb dX5_split_0 rfl (lv_at hl 0 rfl) ?_
    refine lv_iload_n hx hb dX5_split_1 rfl (lv_at hl 1 rfl) ?_
    refine cl_i (rest := []) (c_X5_isVault l D cA ad A hDD σ v ) ⟨hx, hb, hml, hown, hts⟩ hK hP hS kv_X5_67 ⟨Nat.le_of_ble_eq_true rfl, Nat.le_of_ble_eq_true rfl⟩ ⟨Nat.zero_le _, Nat.zero_le _⟩ 0 rfl rfl rfl hl.1 rfl (Nat.le_of_ble_eq_true rfl) (fun q h => h) dX5_split_2 (fun r u H locs hw hP hS _ => ?_)
    rw [hw.2] at hP
    refine tp_i (z := (hz (sVc σ) v)) hw.1 ?_
    refine tp_i (z := 0) (hz_0 h0) ?_
    refine lv_if_eq (tgt := 19) hx hb dX5_split_5 (by decide) (fun _ => ?_) (fun c9 => absurd (by decide) c9)
    refine lv_bipush (v := (-2)) hx hb dX5_split_19 (by decide) ?_
    exact rt_i (v := (-2)) (u := σ) hx hb hr hlocks hS hP (pr2 (split_b1 h0)) dX5_split_21
  · have h0 := ix_nI hj (n := sVc σ) (by omega)
    refine lv_aload_n hx hb dX5_split_0 rfl (lv_at hl 0 rfl) ?_
    refine lv_iload_n hx hb dX5_split_1 rfl (lv_at hl 1 rfl) ?_
    refine cl_i (rest := []) (c_X5_isVault l D cA ad A hDD σ (nI j) ) ⟨hx, hb, hml, hown, hts⟩ hK hP hS kv_X5_67 ⟨Nat.le_of_ble_eq_true rfl, Nat.le_of_ble_eq_true rfl⟩ ⟨Nat.zero_le _, Nat.zero_le _⟩ 0 rfl rfl rfl hl.1 rfl (Nat.le_of_ble_eq_true rfl) (fun q h => h) dX5_split_2 (fun r u H locs hw hP hS _ => ?_)
    rw [hw.2] at hP
    refine tp_i (z := (hz (sVc σ) (nI j))) hw.1 ?_
    refine tp_i (z := 1) (hz_1 h0) ?_
    refine lv_if_eq (tgt := 19) hx hb dX5_split_5 (by decide) (fun c9 => absurd c9 (by decide)) (fun _ => ?_)
    by_cases hn : 0 ≤ n ∧ n ≤ 1000
    · skip
      refine lv_iload_n hx hb dX5_split_8 rfl (lv_at hl 2 rfl) ?_
      refine lv_if_lt (tgt := 19) hx hb dX5_split_9 (by decide) (fun c9 => absurd c9 (i_nlt.mpr hn.1)) (fun _ => ?_)
      refine lv_iload_n hx hb dX5_split_12 rfl (lv_at hl 2 rfl) ?_
      refine lv_sipush (v := 1000) hx hb dX5_split_13 (by decide) ?_
      refine lv_icmp_le (tgt := 22) hx hb dX5_split_16 (by decide) (fun _ => ?_) (fun c9 => absurd (hn.2) c9)
      refine lv_aload_n hx hb dX5_split_22 rfl (lv_at hl 0 rfl) ?_
      refine lv_iload_n hx hb dX5_split_23 rfl (lv_at hl 1 rfl) ?_
      refine cl_i (rest := []) (c_X5_turnBoth l D cA ad A hDD σ j  hI hj (by omega) (by omega)) ⟨hx, hb, hml, hown, hts⟩ hK hP hS kv_X5_103 ⟨Nat.le_of_ble_eq_true rfl, Nat.le_of_ble_eq_true rfl⟩ ⟨Nat.zero_le _, Nat.zero_le _⟩ 0 rfl rfl rfl hl.1 rfl (Nat.le_of_ble_eq_true rfl) (fun q h => h) dX5_split_24 (fun r u H locs hw hP hS _ => ?_)
      rw [hw.2] at hP
      refine tp_i (z := (tb σ j).1) hw.1 ?_
      refine lv_istore_n (lv' := [(3, .int (tb σ j).1), (0, .ref (ad 0)), (1, .int (nI j)), (2, .int n)]) hx hb dX5_split_27 rfl hl (by decide) rfl (fun ls hl => ?_)
      refine lv_iload_n hx hb dX5_split_28 rfl (lv_at hl 0 rfl) ?_
      refine lv_if_eq (tgt := 34) hx hb dX5_split_29 (by decide) (fun c29 => ?_) (fun c29 => ?_)
      · have st1 := tb_st (v := j) hI hj (by omega)
        have b1 := st1.2.2.2.2
        have hj1 : j < sVc (tb σ j).2 := by rw [st1.2.1]; exact hj
        have hvc1 := st1.1.vc
        refine lv_iload_n hx hb dX5_split_34 rfl (lv_at hl 3 rfl) ?_
        refine lv_if_ne (tgt := 45) hx hb dX5_split_35 (by decide) (fun c35 => ?_) (fun c35 => ?_)
        · refine lv_aload_n hx hb dX5_split_45 rfl (lv_at hl 1 rfl) ?_
          refine lv_aload_n hx hb dX5_split_46 rfl (lv_at hl 1 rfl) ?_
          refine va_get (D := D) (ci := 5) (v := .ref (ad 5)) (C := RX5) (T := TX5) (N := 20) hx hb hts in_X5 hown hK hP 0 rfl rfl 5 (by decide) (hts _ kf_X5_22) (fun _ h9 => h9) rfl dX5_split_47 ?_
          refine lv_iload_n hx hb dX5_split_50 rfl (lv_at hl 2 rfl) ?_
          refine ar_g hx hb hK hP 5 rfl (by omega) (by decide) dX5_split_51 ?_
          refine lv_iload_n hx hb dX5_split_52 rfl (lv_at hl 3 rfl) ?_
          refine lv_idiv hx hb dX5_split_53 c35 ?_
          refine cl_i (rest := []) (c_X5_ended l D cA ad A hDD (tb σ j).2 ((sSm (tb σ j).2 j) / n) st1.1 (by omega)) ⟨hx, hb, hml, hown, hts⟩ hK hP hS kv_X5_109 ⟨Nat.le_of_ble_eq_true rfl, Nat.le_of_ble_eq_true rfl⟩ ⟨Nat.zero_le _, Nat.zero_le _⟩ 0 rfl rfl rfl hl.1 rfl (Nat.le_of_ble_eq_true rfl) (fun q h => h) dX5_split_54 (fun r u H locs hw hP hS _ => ?_)
          rw [hw.2] at hP
          refine tp_i (z := ((sSm (tb σ j).2 j) / n)) hw.1 ?_
          exact rt_i (v := ((sSm (tb σ j).2 j) / n)) (u := (da 200 (tb σ j).2)) hx hb hr hlocks hS hP ((by rw [split_g h0 hn]; unfold g_split; rw [if_pos c29, if_neg c35]; exact ⟨rfl, rfl⟩)) dX5_split_57
        · refine lv_aload_n hx hb dX5_split_38 rfl (lv_at hl 1 rfl) ?_
          refine lv_bipush (v := (-8)) hx hb dX5_split_39 (by decide) ?_
          refine cl_i (rest := []) (c_X5_alarmed l D cA ad A hDD (tb σ j).2 (-8) st1.1 (by omega)) ⟨hx, hb, hml, hown, hts⟩ hK hP hS kv_X5_112 ⟨Nat.le_of_ble_eq_true rfl, Nat.le_of_ble_eq_true rfl⟩ ⟨Nat.zero_le _, Nat.zero_le _⟩ 0 rfl rfl rfl hl.1 rfl (Nat.le_of_ble_eq_true rfl) (fun q h => h) dX5_split_41 (fun r u H locs hw hP hS _ => ?_)
          rw [hw.2] at hP
          refine tp_i (z := (-8)) hw.1 ?_
          exact rt_i (v := (-8)) (u := (ra (tb σ j).2)) hx hb hr hlocks hS hP ((by rw [split_g h0 hn]; unfold g_split; rw [if_pos c29, if_pos c35]; exact ⟨rfl, rfl⟩)) dX5_split_44
      · refine lv_iload_n hx hb dX5_split_32 rfl (lv_at hl 0 rfl) ?_
        exact rt_i (v := (tb σ j).1) (u := (tb σ j).2) hx hb hr hlocks hS hP ((by rw [split_g h0 hn]; unfold g_split; rw [if_neg c29]; exact ⟨rfl, rfl⟩)) dX5_split_33
    · skip
      refine lv_iload_n hx hb dX5_split_8 rfl (lv_at hl 2 rfl) ?_
      refine lv_if_lt (tgt := 19) hx hb dX5_split_9 (by decide) (fun h9 => ?_) (fun h9 => ?_)
      · refine lv_bipush (v := (-2)) hx hb dX5_split_19 (by decide) ?_
        exact rt_i (v := (-2)) (u := σ) hx hb hr hlocks hS hP (pr2 (split_b2 h0 hn)) dX5_split_21
      · refine lv_iload_n hx hb dX5_split_12 rfl (lv_at hl 2 rfl) ?_
        refine lv_sipush (v := 1000) hx hb dX5_split_13 (by decide) ?_
        refine lv_icmp_le (tgt := 22) hx hb dX5_split_16 (by decide) (fun c9 => absurd c9 (fun q => hn ⟨i_nlt.mp h9, q⟩)) (fun _ => ?_)
        refine lv_bipush (v := (-2)) hx hb dX5_split_19 (by decide) ?_
        exact rt_i (v := (-2)) (u := σ) hx hb hr hlocks hS hP (pr2 (split_b2 h0 hn)) dX5_split_21
set_option maxHeartbeats 4000000 in
set_option maxRecDepth 100000 in
theorem c_X5_move (l : Launch) (D : va_G) (cA : ClassId) (ad : Nat → Nat) (A : Nat → Prop) (hDD : ∀ u, va_D A (rW ad cA u)) (σ : CS) (a b n : Int32) (hI : Inv σ) (hg : sGr σ = 0) (hb9 : sBc σ ≤ 1000000000) : Ct l D cA (rW ad cA) A yX5_move cX5_move 5 (some .int) 7 150 [.ref (ad 0), .int a, .int b, .int n] σ (fun r u => r = (f_move σ a b n).1 ∧ u = (f_move σ a b n).2) := by
  refine Ct.of (by decide) (Nat.le_of_ble_eq_true rfl) ?_
  intro p e s m below meth c ls S0 hr hlocks hK hP hS hl
  obtain ⟨hx, hb, hml, hown, hts⟩ := id S0
  have hl : lv_has ls 5 [(0, .ref (ad 0)), (1, .int a), (2, .int b), (3, .int n)] := hl
  have hkc := hI.kc
  have hvc := hI.vc
  have hgc := hI.gr
  have htc := hI.tc
  rcases ix_cases (n := sVc σ) a (by omega) with h0 | ⟨i, hi, rfl⟩
  · refine lv_aload_n hx hb dX5_move_0 rfl (lv_at hl 0 rfl) ?_
    refine lv_iload_n hx hb dX5_move_1 rfl (lv_at hl 1 rfl) ?_
    refine cl_i (rest := []) (c_X5_isVault l D cA ad A hDD σ a ) ⟨hx, hb, hml, hown, hts⟩ hK hP hS kv_X5_67 ⟨Nat.le_of_ble_eq_true rfl, Nat.le_of_ble_eq_true rfl⟩ ⟨Nat.zero_le _, Nat.zero_le _⟩ 0 rfl rfl rfl hl.1 rfl (Nat.le_of_ble_eq_true rfl) (fun q h => h) dX5_move_2 (fun r u H locs hw hP hS _ => ?_)
    rw [hw.2] at hP
    refine tp_i (z := (hz (sVc σ) a)) hw.1 ?_
    refine tp_i (z := 0) (hz_0 h0) ?_
    refine lv_if_eq (tgt := 23) hx hb dX5_move_5 (by decide) (fun _ => ?_) (fun c9 => absurd (by decide) c9)
    refine lv_bipush (v := (-2)) hx hb dX5_move_23 (by decide) ?_
    exact rt_i (v := (-2)) (u := σ) hx hb hr hlocks hS hP (pr2 (move_b1 h0)) dX5_move_25
  · have h0 := ix_nI hi (n := sVc σ) (by omega)
    refine lv_aload_n hx hb dX5_move_0 rfl (lv_at hl 0 rfl) ?_
    refine lv_iload_n hx hb dX5_move_1 rfl (lv_at hl 1 rfl) ?_
    refine cl_i (rest := []) (c_X5_isVault l D cA ad A hDD σ (nI i) ) ⟨hx, hb, hml, hown, hts⟩ hK hP hS kv_X5_67 ⟨Nat.le_of_ble_eq_true rfl, Nat.le_of_ble_eq_true rfl⟩ ⟨Nat.zero_le _, Nat.zero_le _⟩ 0 rfl rfl rfl hl.1 rfl (Nat.le_of_ble_eq_true rfl) (fun q h => h) dX5_move_2 (fun r u H locs hw hP hS _ => ?_)
    rw [hw.2] at hP
    refine tp_i (z := (hz (sVc σ) (nI i))) hw.1 ?_
    refine tp_i (z := 1) (hz_1 h0) ?_
    refine lv_if_eq (tgt := 23) hx hb dX5_move_5 (by decide) (fun c9 => absurd c9 (by decide)) (fun _ => ?_)
    rcases ix_cases (n := sVc σ) b (by omega) with h1 | ⟨j, hj, rfl⟩
    · refine lv_aload_n hx hb dX5_move_8 rfl (lv_at hl 0 rfl) ?_
      refine lv_iload_n hx hb dX5_move_9 rfl (lv_at hl 2 rfl) ?_
      refine cl_i (rest := []) (c_X5_isVault l D cA ad A hDD σ b ) ⟨hx, hb, hml, hown, hts⟩ hK hP hS kv_X5_67 ⟨Nat.le_of_ble_eq_true rfl, Nat.le_of_ble_eq_true rfl⟩ ⟨Nat.zero_le _, Nat.zero_le _⟩ 0 rfl rfl rfl hl.1 rfl (Nat.le_of_ble_eq_true rfl) (fun q h => h) dX5_move_10 (fun r u H locs hw hP hS _ => ?_)
      rw [hw.2] at hP
      refine tp_i (z := (hz (sVc σ) b)) hw.1 ?_
      refine tp_i (z := 0) (hz_0 h1) ?_
      refine lv_if_eq (tgt := 23) hx hb dX5_move_13 (by decide) (fun _ => ?_) (fun c9 => absurd (by decide) c9)
      refine lv_bipush (v := (-2)) hx hb dX5_move_23 (by decide) ?_
      exact rt_i (v := (-2)) (u := σ) hx hb hr hlocks hS hP (pr2 (move_b2 h0 h1)) dX5_move_25
    · have h1 := ix_nI hj (n := sVc σ) (by omega)
      refine lv_aload_n hx hb dX5_move_8 rfl (lv_at hl 0 rfl) ?_
      refine lv_iload_n hx hb dX5_move_9 rfl (lv_at hl 2 rfl) ?_
      refine cl_i (rest := []) (c_X5_isVault l D cA ad A hDD σ (nI j) ) ⟨hx, hb, hml, hown, hts⟩ hK hP hS kv_X5_67 ⟨Nat.le_of_ble_eq_true rfl, Nat.le_of_ble_eq_true rfl⟩ ⟨Nat.zero_le _, Nat.zero_le _⟩ 0 rfl rfl rfl hl.1 rfl (Nat.le_of_ble_eq_true rfl) (fun q h => h) dX5_move_10 (fun r u H locs hw hP hS _ => ?_)
      rw [hw.2] at hP
      refine tp_i (z := (hz (sVc σ) (nI j))) hw.1 ?_
      refine tp_i (z := 1) (hz_1 h1) ?_
      refine lv_if_eq (tgt := 23) hx hb dX5_move_13 (by decide) (fun c9 => absurd c9 (by decide)) (fun _ => ?_)
      by_cases hn : amt n
      · skip
        refine lv_iload_n hx hb dX5_move_16 rfl (lv_at hl 3 rfl) ?_
        refine cl_s (rest := []) (c_X5_isAmount l D cA ad A hDD σ n ) ⟨hx, hb, hml, hown, hts⟩ hK hP hS kv_X5_63 ⟨Nat.le_of_ble_eq_true rfl, Nat.le_of_ble_eq_true rfl⟩ ⟨Nat.zero_le _, Nat.zero_le _⟩ rfl hl.1 rfl (Nat.le_of_ble_eq_true rfl) (fun q h => h) dX5_move_17 (fun r u H locs hw hP hS => ?_)
        rw [hw.2] at hP
        refine tp_i (z := (bz (amt n))) hw.1 ?_
        refine tp_i (z := 1) (bz_1 hn) ?_
        refine lv_if_ne (tgt := 26) hx hb dX5_move_20 (by decide) (fun _ => ?_) (fun c9 => absurd c9 (by decide))
        refine lv_aload_n hx hb dX5_move_26 rfl (lv_at hl 0 rfl) ?_
        refine lv_iload_n hx hb dX5_move_27 rfl (lv_at hl 1 rfl) ?_
        refine cl_i (rest := []) (c_X5_turnBoth l D cA ad A hDD σ i  hI hi (by omega) (by omega)) ⟨hx, hb, hml, hown, hts⟩ hK hP hS kv_X5_103 ⟨Nat.le_of_ble_eq_true rfl, Nat.le_of_ble_eq_true rfl⟩ ⟨Nat.zero_le _, Nat.zero_le _⟩ 0 rfl rfl rfl hl.1 rfl (Nat.le_of_ble_eq_true rfl) (fun q h => h) dX5_move_28 (fun r u1 H locs hw hP hS _ => ?_)
        have hu1 : u1 = (tb σ i).2 := hw.2
        refine tp_i (z := (tb σ i).1) hw.1 ?_
        have st1 := tb_st (v := i) hI hi (by omega)
        rw [← hu1] at st1
        have b1 := st1.2.2.2.2
        have hj1 : j < sVc u1 := by rw [st1.2.1]; exact hj
        have gr1 : sGr u1 ≤ sGr σ + 2 := by rw [hu1]; exact tb_gr
        refine lv_istore (lv' := [(4, .int (tb σ i).1), (0, .ref (ad 0)), (1, .int (nI i)), (2, .int (nI j)), (3, .int n)]) hx hb dX5_move_31 hl (by decide) rfl (fun ls hl => ?_)
        refine lv_iload hx hb dX5_move_33 (lv_at hl 0 rfl) ?_
        refine lv_if_ne (tgt := 45) hx hb dX5_move_35 (by decide) (fun c35 => ?_) (fun c35 => ?_)
        · refine lv_iload hx hb dX5_move_45 (lv_at hl 0 rfl) ?_
          refine lv_if_eq (tgt := 53) hx hb dX5_move_47 (by decide) (fun c9 => absurd c9 (c35)) (fun _ => ?_)
          refine lv_iload hx hb dX5_move_50 (lv_at hl 0 rfl) ?_
          exact rt_i (v := (tb σ i).1) (u := u1) hx hb hr hlocks hS hP ((by rw [move_g1 h0 h1 hn c35]; exact ⟨rfl, hu1⟩)) dX5_move_52
        · refine lv_aload_n hx hb dX5_move_38 rfl (lv_at hl 1 rfl) ?_
          refine lv_iload_n hx hb dX5_move_39 rfl (lv_at hl 3 rfl) ?_
          refine cl_i (rest := []) (c_X5_turnBoth l D cA ad A hDD u1 j  st1.1 hj1 (by omega) (by omega)) ⟨hx, hb, hml, hown, hts⟩ hK hP hS kv_X5_103 ⟨Nat.le_of_ble_eq_true rfl, Nat.le_of_ble_eq_true rfl⟩ ⟨Nat.zero_le _, Nat.zero_le _⟩ 0 rfl rfl rfl hl.1 rfl (Nat.le_of_ble_eq_true rfl) (fun q h => h) dX5_move_40 (fun r u2 H locs hw hP hS _ => ?_)
          have hu2 : u2 = (tb u1 j).2 := hw.2
          refine tp_i (z := (tb u1 j).1) hw.1 ?_
          have st2 := tb_st (v := j) st1.1 hj1 (by omega)
          rw [← hu2] at st2
          have b2 := st2.2.2.2.2
          have hi2 : i < sVc u2 := by rw [st2.2.1, st1.2.1]; exact hi
          have hj2 : j < sVc u2 := by rw [st2.2.1]; exact hj1
          have hvc2 := st2.1.vc
          refine lv_istore (lv' := [(4, .int (tb u1 j).1), (0, .ref (ad 0)), (1, .int (nI i)), (2, .int (nI j)), (3, .int n)]) hx hb dX5_move_43 hl (by decide) rfl (fun ls hl => ?_)
          refine lv_iload hx hb dX5_move_45 (lv_at hl 0 rfl) ?_
          refine lv_if_eq (tgt := 53) hx hb dX5_move_47 (by decide) (fun c47 => ?_) (fun c47 => ?_)
          · by_cases hc : sSm u2 i < n
            · skip
              refine lv_aload_n hx hb dX5_move_53 rfl (lv_at hl 1 rfl) ?_
              refine va_get (D := D) (ci := 5) (v := .ref (ad 5)) (C := RX5) (T := TX5) (N := 20) hx hb hts in_X5 hown hK hP 0 rfl rfl 5 (by decide) (hts _ kf_X5_22) (fun _ h9 => h9) rfl dX5_move_54 ?_
              refine lv_iload_n hx hb dX5_move_57 rfl (lv_at hl 2 rfl) ?_
              refine ar_g hx hb hK hP 5 rfl (by omega) (by decide) dX5_move_58 ?_
              refine lv_iload_n hx hb dX5_move_59 rfl (lv_at hl 4 rfl) ?_
              refine lv_icmp_ge (tgt := 70) hx hb dX5_move_60 (by decide) (fun c9 => absurd c9 (i_nle.mpr hc)) (fun _ => ?_)
              refine lv_aload_n hx hb dX5_move_63 rfl (lv_at hl 1 rfl) ?_
              refine lv_bipush (v := (-6)) hx hb dX5_move_64 (by decide) ?_
              refine cl_i (rest := []) (c_X5_alarmed l D cA ad A hDD u2 (-6) st2.1 (by omega)) ⟨hx, hb, hml, hown, hts⟩ hK hP hS kv_X5_112 ⟨Nat.le_of_ble_eq_true rfl, Nat.le_of_ble_eq_true rfl⟩ ⟨Nat.zero_le _, Nat.zero_le _⟩ 0 rfl rfl rfl hl.1 rfl (Nat.le_of_ble_eq_true rfl) (fun q h => h) dX5_move_66 (fun r u H locs hw hP hS _ => ?_)
              rw [hw.2] at hP
              refine tp_i (z := (-6)) hw.1 ?_
              exact rt_i (v := (-6)) (u := (ra u2)) hx hb hr hlocks hS hP ((by rw [move_g h0 h1 hn c35, ← hu1]; unfold g_move; rw [← hu2, if_pos c47, if_pos hc]; exact ⟨rfl, rfl⟩)) dX5_move_69
            · skip
              refine lv_aload_n hx hb dX5_move_53 rfl (lv_at hl 1 rfl) ?_
              refine va_get (D := D) (ci := 5) (v := .ref (ad 5)) (C := RX5) (T := TX5) (N := 20) hx hb hts in_X5 hown hK hP 0 rfl rfl 5 (by decide) (hts _ kf_X5_22) (fun _ h9 => h9) rfl dX5_move_54 ?_
              refine lv_iload_n hx hb dX5_move_57 rfl (lv_at hl 2 rfl) ?_
              refine ar_g hx hb hK hP 5 rfl (by omega) (by decide) dX5_move_58 ?_
              refine lv_iload_n hx hb dX5_move_59 rfl (lv_at hl 4 rfl) ?_
              refine lv_icmp_ge (tgt := 70) hx hb dX5_move_60 (by decide) (fun _ => ?_) (fun c9 => absurd (i_nlt.mp hc) c9)
              by_cases hd : sLim u2 j < sSm u2 j + n
              · skip
                refine lv_aload_n hx hb dX5_move_70 rfl (lv_at hl 1 rfl) ?_
                refine va_get (D := D) (ci := 5) (v := .ref (ad 5)) (C := RX5) (T := TX5) (N := 20) hx hb hts in_X5 hown hK hP 0 rfl rfl 5 (by decide) (hts _ kf_X5_22) (fun _ h9 => h9) rfl dX5_move_71 ?_
                refine lv_iload_n hx hb dX5_move_74 rfl (lv_at hl 3 rfl) ?_
                refine ar_g hx hb hK hP 5 rfl (by omega) (by decide) dX5_move_75 ?_
                refine lv_iload_n hx hb dX5_move_76 rfl (lv_at hl 4 rfl) ?_
                refine lv_iadd hx hb dX5_move_77 ?_
                refine lv_aload_n hx hb dX5_move_78 rfl (lv_at hl 1 rfl) ?_
                refine va_get (D := D) (ci := 5) (v := .ref (ad 6)) (C := RX5) (T := TX5) (N := 20) hx hb hts in_X5 hown hK hP 0 rfl rfl 6 (by decide) (hts _ kf_X5_25) (fun _ h9 => h9) rfl dX5_move_79 ?_
                refine lv_iload_n hx hb dX5_move_82 rfl (lv_at hl 3 rfl) ?_
                refine ar_g hx hb hK hP 6 rfl (by omega) (by decide) dX5_move_83 ?_
                refine lv_icmp_le (tgt := 94) hx hb dX5_move_84 (by decide) (fun c9 => absurd c9 (i_nle.mpr hd)) (fun _ => ?_)
                refine lv_aload_n hx hb dX5_move_87 rfl (lv_at hl 1 rfl) ?_
                refine lv_bipush (v := (-5)) hx hb dX5_move_88 (by decide) ?_
                refine cl_i (rest := []) (c_X5_answered l D cA ad A hDD u2 (-5) st2.1 (by omega)) ⟨hx, hb, hml, hown, hts⟩ hK hP hS kv_X5_106 ⟨Nat.le_of_ble_eq_true rfl, Nat.le_of_ble_eq_true rfl⟩ ⟨Nat.zero_le _, Nat.zero_le _⟩ 0 rfl rfl rfl hl.1 rfl (Nat.le_of_ble_eq_true rfl) (fun q h => h) dX5_move_90 (fun r u H locs hw hP hS _ => ?_)
                rw [hw.2] at hP
                refine tp_i (z := (-5)) hw.1 ?_
                exact rt_i (v := (-5)) (u := (da 300 u2)) hx hb hr hlocks hS hP ((by rw [move_g h0 h1 hn c35, ← hu1]; unfold g_move; rw [← hu2, if_pos c47, if_neg hc, if_pos hd]; exact ⟨rfl, rfl⟩)) dX5_move_93
              · skip
                refine lv_aload_n hx hb dX5_move_70 rfl (lv_at hl 1 rfl) ?_
                refine va_get (D := D) (ci := 5) (v := .ref (ad 5)) (C := RX5) (T := TX5) (N := 20) hx hb hts in_X5 hown hK hP 0 rfl rfl 5 (by decide) (hts _ kf_X5_22) (fun _ h9 => h9) rfl dX5_move_71 ?_
                refine lv_iload_n hx hb dX5_move_74 rfl (lv_at hl 3 rfl) ?_
                refine ar_g hx hb hK hP 5 rfl (by omega) (by decide) dX5_move_75 ?_
                refine lv_iload_n hx hb dX5_move_76 rfl (lv_at hl 4 rfl) ?_
                refine lv_iadd hx hb dX5_move_77 ?_
                refine lv_aload_n hx hb dX5_move_78 rfl (lv_at hl 1 rfl) ?_
                refine va_get (D := D) (ci := 5) (v := .ref (ad 6)) (C := RX5) (T := TX5) (N := 20) hx hb hts in_X5 hown hK hP 0 rfl rfl 6 (by decide) (hts _ kf_X5_25) (fun _ h9 => h9) rfl dX5_move_79 ?_
                refine lv_iload_n hx hb dX5_move_82 rfl (lv_at hl 3 rfl) ?_
                refine ar_g hx hb hK hP 6 rfl (by omega) (by decide) dX5_move_83 ?_
                refine lv_icmp_le (tgt := 94) hx hb dX5_move_84 (by decide) (fun _ => ?_) (fun c9 => absurd (i_nlt.mp hd) c9)
                refine lv_aload_n hx hb dX5_move_94 rfl (lv_at hl 1 rfl) ?_
                refine va_get (D := D) (ci := 5) (v := .ref (ad 5)) (C := RX5) (T := TX5) (N := 20) hx hb hts in_X5 hown hK hP 0 rfl rfl 5 (by decide) (hts _ kf_X5_22) (fun _ h9 => h9) rfl dX5_move_95 ?_
                refine lv_iload_n hx hb dX5_move_98 rfl (lv_at hl 2 rfl) ?_
                refine lv_dup2_11 hx hb dX5_move_99 rfl rfl ?_
                refine ar_g hx hb hK hP 5 rfl (by omega) (by decide) dX5_move_100 ?_
                refine lv_iload_n hx hb dX5_move_101 rfl (lv_at hl 4 rfl) ?_
                refine lv_isub hx hb dX5_move_102 ?_
                refine ar_p hx hb hK hP (hDD _) hS 5 rfl (x := ((sSm u2 i) - n)) (by omega) (by decide) dX5_move_103 (fun H locs hP hS => ?_)
                have hP : va_P D vwCl (rW ad cA (u2.1, ((sLim u2), (upd (sSm u2) i ((sSm u2 i) - n)), (sNx u2), (sLf u2), (sRt u2), (sVc u2)), u2.2.2.1, u2.2.2.2.1, u2.2.2.2.2)) H := hP
                refine lv_aload_n hx hb dX5_move_104 rfl (lv_at hl 1 rfl) ?_
                refine va_get (D := D) (ci := 5) (v := .ref (ad 5)) (C := RX5) (T := TX5) (N := 20) hx hb hts in_X5 hown hK hP 0 rfl rfl 5 (by decide) (hts _ kf_X5_22) (fun _ h9 => h9) rfl dX5_move_105 ?_
                refine lv_iload_n hx hb dX5_move_108 rfl (lv_at hl 3 rfl) ?_
                refine lv_dup2_11 hx hb dX5_move_109 rfl rfl ?_
                refine ar_g hx hb hK hP 5 rfl (by omega) (by decide) dX5_move_110 ?_
                refine lv_iload_n hx hb dX5_move_111 rfl (lv_at hl 4 rfl) ?_
                refine lv_iadd hx hb dX5_move_112 ?_
                refine ar_p hx hb hK hP (hDD _) hS 5 rfl (x := (((upd (sSm u2) i ((sSm u2 i) - n)) j) + n)) (by omega) (by decide) dX5_move_113 (fun H locs hP hS => ?_)
                have hP : va_P D vwCl (rW ad cA (u2.1, ((sLim u2), (upd (upd (sSm u2) i ((sSm u2 i) - n)) j (((upd (sSm u2) i ((sSm u2 i) - n)) j) + n)), (sNx u2), (sLf u2), (sRt u2), (sVc u2)), u2.2.2.1, u2.2.2.2.1, u2.2.2.2.2)) H := hP
                refine lv_aload_n hx hb dX5_move_114 rfl (lv_at hl 1 rfl) ?_
                refine lv_aload_n hx hb dX5_move_115 rfl (lv_at hl 1 rfl) ?_
                refine va_get (D := D) (ci := 5) (v := .ref (ad 5)) (C := RX5) (T := TX5) (N := 20) hx hb hts in_X5 hown hK hP 0 rfl rfl 5 (by decide) (hts _ kf_X5_22) (fun _ h9 => h9) rfl dX5_move_116 ?_
                refine lv_iload_n hx hb dX5_move_119 rfl (lv_at hl 2 rfl) ?_
                refine ar_g hx hb hK hP 5 rfl (by omega) (by decide) dX5_move_120 ?_
                refine cl_i (rest := []) (c_X5_ended l D cA ad A hDD (u2.1, ((sLim u2), (upd (upd (sSm u2) i ((sSm u2 i) - n)) j (((upd (sSm u2) i ((sSm u2 i) - n)) j) + n)), (sNx u2), (sLf u2), (sRt u2), (sVc u2)), u2.2.2.1, u2.2.2.2.1, u2.2.2.2.2) ((upd (upd (sSm u2) i ((sSm u2 i) - n)) j (((upd (sSm u2) i ((sSm u2 i) - n)) j) + n)) i) (move_inv st2.1 hi2 hj2 hn hc hd) (by show sBc u2 + sGr u2 < 2147483647; omega)) ⟨hx, hb, hml, hown, hts⟩ hK hP hS kv_X5_109 ⟨Nat.le_of_ble_eq_true rfl, Nat.le_of_ble_eq_true rfl⟩ ⟨Nat.zero_le _, Nat.zero_le _⟩ 0 rfl rfl rfl hl.1 rfl (Nat.le_of_ble_eq_true rfl) (fun q h => h) dX5_move_121 (fun r u H locs hw hP hS _ => ?_)
                rw [hw.2] at hP
                refine tp_i (z := ((upd (upd (sSm u2) i ((sSm u2 i) - n)) j (((upd (sSm u2) i ((sSm u2 i) - n)) j) + n)) i)) hw.1 ?_
                exact rt_i (v := ((upd (upd (sSm u2) i ((sSm u2 i) - n)) j (((upd (sSm u2) i ((sSm u2 i) - n)) j) + n)) i)) (u := (da 200 (u2.1, ((sLim u2), (upd (upd (sSm u2) i ((sSm u2 i) - n)) j (((upd (sSm u2) i ((sSm u2 i) - n)) j) + n)), (sNx u2), (sLf u2), (sRt u2), (sVc u2)), u2.2.2.1, u2.2.2.2.1, u2.2.2.2.2))) hx hb hr hlocks hS hP ((by rw [move_g h0 h1 hn c35, ← hu1]; unfold g_move; rw [← hu2, if_pos c47, if_neg hc, if_neg hd]; exact ⟨rfl, rfl⟩)) dX5_move_124
          · refine lv_iload hx hb dX5_move_50 (lv_at hl 0 rfl) ?_
            exact rt_i (v := (tb u1 j).1) (u := u2) hx hb hr hlocks hS hP ((by rw [move_g h0 h1 hn c35, ← hu1]; unfold g_move; rw [if_neg c47]; exact ⟨rfl, hu2⟩)) dX5_move_52
      · skip
        refine lv_iload_n hx hb dX5_move_16 rfl (lv_at hl 3 rfl) ?_
        refine cl_s (rest := []) (c_X5_isAmount l D cA ad A hDD σ n ) ⟨hx, hb, hml, hown, hts⟩ hK hP hS kv_X5_63 ⟨Nat.le_of_ble_eq_true rfl, Nat.le_of_ble_eq_true rfl⟩ ⟨Nat.zero_le _, Nat.zero_le _⟩ rfl hl.1 rfl (Nat.le_of_ble_eq_true rfl) (fun q h => h) dX5_move_17 (fun r u H locs hw hP hS => ?_)
        rw [hw.2] at hP
        refine tp_i (z := (bz (amt n))) hw.1 ?_
        refine tp_i (z := 0) (bz_0 hn) ?_
        refine lv_if_ne (tgt := 26) hx hb dX5_move_20 (by decide) (fun c9 => absurd (by decide) c9) (fun _ => ?_)
        refine lv_bipush (v := (-2)) hx hb dX5_move_23 (by decide) ?_
        exact rt_i (v := (-2)) (u := σ) hx hb hr hlocks hS hP (pr2 (move_b3 h0 h1 hn)) dX5_move_25
set_option maxHeartbeats 4000000 in
set_option maxRecDepth 100000 in
theorem c_X5_swap (l : Launch) (D : va_G) (cA : ClassId) (ad : Nat → Nat) (A : Nat → Prop) (hDD : ∀ u, va_D A (rW ad cA u)) (σ : CS) (v : Int32) (hI : Inv σ) (hg : sGr σ = 0) (hb9 : sBc σ ≤ 1000000000) : Ct l D cA (rW ad cA) A yX5_swap cX5_swap 4 (some .int) 7 150 [.ref (ad 0), .int v] σ (fun r u => r = (f_swap σ v).1 ∧ u = (f_swap σ v).2) := by
  refine Ct.of (by decide) (Nat.le_of_ble_eq_true rfl) ?_
  intro p e s m below meth c ls S0 hr hlocks hK hP hS hl
  obtain ⟨hx, hb, hml, hown, hts⟩ := id S0
  have hl : lv_has ls 4 [(0, .ref (ad 0)), (1, .int v)] := hl
  have hkc := hI.kc
  have hvc := hI.vc
  have hgc := hI.gr
  have htc := hI.tc
  rcases ix_cases (n := sVc σ) v (by omega) with h0 | ⟨j, hj, rfl⟩
  · refine lv_aload_n hx hb dX5_swap_0 rfl (lv_at hl 0 rfl) ?_
    refine lv_iload_n hx hb dX5_swap_1 rfl (lv_at hl 1 rfl) ?_
    refine cl_i (rest := []) (c_X5_isVault l D cA ad A hDD σ v ) ⟨hx, hb, hml, hown, hts⟩ hK hP hS kv_X5_67 ⟨Nat.le_of_ble_eq_true rfl, Nat.le_of_ble_eq_true rfl⟩ ⟨Nat.zero_le _, Nat.zero_le _⟩ 0 rfl rfl rfl hl.1 rfl (Nat.le_of_ble_eq_true rfl) (fun q h => h) dX5_swap_2 (fun r u H locs hw hP hS _ => ?_)
    rw [hw.2] at hP
    refine tp_i (z := (hz (sVc σ) v)) hw.1 ?_
    refine tp_i (z := 0) (hz_0 h0) ?_
    refine lv_if_ne (tgt := 11) hx hb dX5_swap_5 (by decide) (fun c9 => absurd (by decide) c9) (fun _ => ?_)
    refine lv_bipush (v := (-2)) hx hb dX5_swap_8 (by decide) ?_
    exact rt_i (v := (-2)) (u := σ) hx hb hr hlocks hS hP (pr2 (swap_b1 h0)) dX5_swap_10
  · have h0 := ix_nI hj (n := sVc σ) (by omega)
    refine lv_aload_n hx hb dX5_swap_0 rfl (lv_at hl 0 rfl) ?_
    refine lv_iload_n hx hb dX5_swap_1 rfl (lv_at hl 1 rfl) ?_
    refine cl_i (rest := []) (c_X5_isVault l D cA ad A hDD σ (nI j) ) ⟨hx, hb, hml, hown, hts⟩ hK hP hS kv_X5_67 ⟨Nat.le_of_ble_eq_true rfl, Nat.le_of_ble_eq_true rfl⟩ ⟨Nat.zero_le _, Nat.zero_le _⟩ 0 rfl rfl rfl hl.1 rfl (Nat.le_of_ble_eq_true rfl) (fun q h => h) dX5_swap_2 (fun r u H locs hw hP hS _ => ?_)
    rw [hw.2] at hP
    refine tp_i (z := (hz (sVc σ) (nI j))) hw.1 ?_
    refine tp_i (z := 1) (hz_1 h0) ?_
    refine lv_if_ne (tgt := 11) hx hb dX5_swap_5 (by decide) (fun _ => ?_) (fun c9 => absurd c9 (by decide))
    refine lv_aload_n hx hb dX5_swap_11 rfl (lv_at hl 0 rfl) ?_
    refine lv_iload_n hx hb dX5_swap_12 rfl (lv_at hl 1 rfl) ?_
    refine cl_i (rest := []) (c_X5_turnBoth l D cA ad A hDD σ j  hI hj (by omega) (by omega)) ⟨hx, hb, hml, hown, hts⟩ hK hP hS kv_X5_103 ⟨Nat.le_of_ble_eq_true rfl, Nat.le_of_ble_eq_true rfl⟩ ⟨Nat.zero_le _, Nat.zero_le _⟩ 0 rfl rfl rfl hl.1 rfl (Nat.le_of_ble_eq_true rfl) (fun q h => h) dX5_swap_13 (fun r u H locs hw hP hS _ => ?_)
    rw [hw.2] at hP
    refine tp_i (z := (tb σ j).1) hw.1 ?_
    refine lv_istore_n (lv' := [(2, .int (tb σ j).1), (0, .ref (ad 0)), (1, .int (nI j))]) hx hb dX5_swap_16 rfl hl (by decide) rfl (fun ls hl => ?_)
    refine lv_iload_n hx hb dX5_swap_17 rfl (lv_at hl 0 rfl) ?_
    refine lv_if_eq (tgt := 23) hx hb dX5_swap_18 (by decide) (fun c18 => ?_) (fun c18 => ?_)
    · have st1 := tb_st (v := j) hI hj (by omega)
      have b1 := st1.2.2.2.2
      have hj1 : j < sVc (tb σ j).2 := by rw [st1.2.1]; exact hj
      have hvc1 := st1.1.vc
      refine lv_aload_n hx hb dX5_swap_23 rfl (lv_at hl 1 rfl) ?_
      refine va_get (D := D) (ci := 5) (v := .ref (ad 8)) (C := RX5) (T := TX5) (N := 20) hx hb hts in_X5 hown hK hP 0 rfl rfl 8 (by decide) (hts _ kf_X5_31) (fun _ h9 => h9) rfl dX5_swap_24 ?_
      refine lv_iconst (v := 2) hx hb dX5_swap_27 (by decide) ?_
      refine lv_iload_n hx hb dX5_swap_28 rfl (lv_at hl 2 rfl) ?_
      refine lv_imul hx hb dX5_swap_29 ?_
      refine tp_i (z := (nI (2 * j))) (pk_mul 2 _) ?_
      refine ar_g hx hb hK hP 8 rfl (by omega) (by decide) dX5_swap_30 ?_
      refine tp_i (z := (sLf (tb σ j).2 j)) (mix_0 _ _ _) ?_
      refine lv_istore_n (lv' := [(3, .int (sLf (tb σ j).2 j)), (2, .int (tb σ j).1), (0, .ref (ad 0)), (1, .int (nI j))]) hx hb dX5_swap_31 rfl hl (by decide) rfl (fun ls hl => ?_)
      refine lv_aload_n hx hb dX5_swap_32 rfl (lv_at hl 2 rfl) ?_
      refine va_get (D := D) (ci := 5) (v := .ref (ad 8)) (C := RX5) (T := TX5) (N := 20) hx hb hts in_X5 hown hK hP 0 rfl rfl 8 (by decide) (hts _ kf_X5_31) (fun _ h9 => h9) rfl dX5_swap_33 ?_
      refine lv_iconst (v := 2) hx hb dX5_swap_36 (by decide) ?_
      refine lv_iload_n hx hb dX5_swap_37 rfl (lv_at hl 3 rfl) ?_
      refine lv_imul hx hb dX5_swap_38 ?_
      refine tp_i (z := (nI (2 * j))) (pk_mul 2 _) ?_
      refine lv_aload_n hx hb dX5_swap_39 rfl (lv_at hl 2 rfl) ?_
      refine va_get (D := D) (ci := 5) (v := .ref (ad 8)) (C := RX5) (T := TX5) (N := 20) hx hb hts in_X5 hown hK hP 0 rfl rfl 8 (by decide) (hts _ kf_X5_31) (fun _ h9 => h9) rfl dX5_swap_40 ?_
      refine lv_iconst (v := 2) hx hb dX5_swap_43 (by decide) ?_
      refine lv_iload_n hx hb dX5_swap_44 rfl (lv_at hl 3 rfl) ?_
      refine lv_imul hx hb dX5_swap_45 ?_
      refine tp_i (z := (nI (2 * j))) (pk_mul 2 _) ?_
      refine lv_iconst (v := 1) hx hb dX5_swap_46 (by decide) ?_
      refine lv_iadd hx hb dX5_swap_47 ?_
      refine tp_i (z := (nI ((2 * j) + 1))) (nI_1 _) ?_
      refine ar_g hx hb hK hP 8 rfl (by omega) (by decide) dX5_swap_48 ?_
      refine tp_i (z := (sRt (tb σ j).2 j)) (mix_1 _ _ _) ?_
      refine ar_p hx hb hK hP (hDD _) hS 8 rfl (x := (sRt (tb σ j).2 j)) (by omega) (by decide) dX5_swap_49 (fun H locs hP hS => ?_)
      have hP := (mix_u0 (sLf (tb σ j).2) (sRt (tb σ j).2) j (sRt (tb σ j).2 j)) ▸ hP
      have hP : va_P D vwCl (rW ad cA ((tb σ j).2.1, ((sLim (tb σ j).2), (sSm (tb σ j).2), (sNx (tb σ j).2), (upd (sLf (tb σ j).2) j (sRt (tb σ j).2 j)), (sRt (tb σ j).2), (sVc (tb σ j).2)), (tb σ j).2.2.2.1, (tb σ j).2.2.2.2.1, (tb σ j).2.2.2.2.2)) H := hP
      refine lv_aload_n hx hb dX5_swap_50 rfl (lv_at hl 2 rfl) ?_
      refine va_get (D := D) (ci := 5) (v := .ref (ad 8)) (C := RX5) (T := TX5) (N := 20) hx hb hts in_X5 hown hK hP 0 rfl rfl 8 (by decide) (hts _ kf_X5_31) (fun _ h9 => h9) rfl dX5_swap_51 ?_
      refine lv_iconst (v := 2) hx hb dX5_swap_54 (by decide) ?_
      refine lv_iload_n hx hb dX5_swap_55 rfl (lv_at hl 3 rfl) ?_
      refine lv_imul hx hb dX5_swap_56 ?_
      refine tp_i (z := (nI (2 * j))) (pk_mul 2 _) ?_
      refine lv_iconst (v := 1) hx hb dX5_swap_57 (by decide) ?_
      refine lv_iadd hx hb dX5_swap_58 ?_
      refine tp_i (z := (nI ((2 * j) + 1))) (nI_1 _) ?_
      refine lv_iload_n hx hb dX5_swap_59 rfl (lv_at hl 0 rfl) ?_
      refine ar_p hx hb hK hP (hDD _) hS 8 rfl (x := (sLf (tb σ j).2 j)) (by omega) (by decide) dX5_swap_60 (fun H locs hP hS => ?_)
      have hP := (mix_u1 (upd (sLf (tb σ j).2) j (sRt (tb σ j).2 j)) (sRt (tb σ j).2) j (sLf (tb σ j).2 j)) ▸ hP
      have hP : va_P D vwCl (rW ad cA ((tb σ j).2.1, ((sLim (tb σ j).2), (sSm (tb σ j).2), (sNx (tb σ j).2), (upd (sLf (tb σ j).2) j (sRt (tb σ j).2 j)), (upd (sRt (tb σ j).2) j (sLf (tb σ j).2 j)), (sVc (tb σ j).2)), (tb σ j).2.2.2.1, (tb σ j).2.2.2.2.1, (tb σ j).2.2.2.2.2)) H := hP
      refine lv_aload_n hx hb dX5_swap_61 rfl (lv_at hl 2 rfl) ?_
      refine lv_aload_n hx hb dX5_swap_62 rfl (lv_at hl 2 rfl) ?_
      refine va_get (D := D) (ci := 5) (v := .ref (ad 8)) (C := RX5) (T := TX5) (N := 20) hx hb hts in_X5 hown hK hP 0 rfl rfl 8 (by decide) (hts _ kf_X5_31) (fun _ h9 => h9) rfl dX5_swap_63 ?_
      refine lv_iconst (v := 2) hx hb dX5_swap_66 (by decide) ?_
      refine lv_iload_n hx hb dX5_swap_67 rfl (lv_at hl 3 rfl) ?_
      refine lv_imul hx hb dX5_swap_68 ?_
      refine tp_i (z := (nI (2 * j))) (pk_mul 2 _) ?_
      refine ar_g hx hb hK hP 8 rfl (by omega) (by decide) dX5_swap_69 ?_
      refine tp_i (z := ((upd (sLf (tb σ j).2) j (sRt (tb σ j).2 j)) j)) (mix_0 _ _ _) ?_
      refine tp_i (z := (sRt (tb σ j).2 j)) upd_eq ?_
      refine cl_i (rest := []) (c_X5_ended l D cA ad A hDD ((tb σ j).2.1, ((sLim (tb σ j).2), (sSm (tb σ j).2), (sNx (tb σ j).2), (upd (sLf (tb σ j).2) j (sRt (tb σ j).2 j)), (upd (sRt (tb σ j).2) j (sLf (tb σ j).2 j)), (sVc (tb σ j).2)), (tb σ j).2.2.2.1, (tb σ j).2.2.2.2.1, (tb σ j).2.2.2.2.2) (sRt (tb σ j).2 j) (swap_inv st1.1 hj1) (by show sBc (tb σ j).2 + sGr (tb σ j).2 < 2147483647; omega)) ⟨hx, hb, hml, hown, hts⟩ hK hP hS kv_X5_109 ⟨Nat.le_of_ble_eq_true rfl, Nat.le_of_ble_eq_true rfl⟩ ⟨Nat.zero_le _, Nat.zero_le _⟩ 0 rfl rfl rfl hl.1 rfl (Nat.le_of_ble_eq_true rfl) (fun q h => h) dX5_swap_70 (fun r u H locs hw hP hS _ => ?_)
      rw [hw.2] at hP
      refine tp_i (z := (sRt (tb σ j).2 j)) hw.1 ?_
      exact rt_i (v := (sRt (tb σ j).2 j)) (u := (da 200 ((tb σ j).2.1, ((sLim (tb σ j).2), (sSm (tb σ j).2), (sNx (tb σ j).2), (upd (sLf (tb σ j).2) j (sRt (tb σ j).2 j)), (upd (sRt (tb σ j).2) j (sLf (tb σ j).2 j)), (sVc (tb σ j).2)), (tb σ j).2.2.2.1, (tb σ j).2.2.2.2.1, (tb σ j).2.2.2.2.2))) hx hb hr hlocks hS hP ((by rw [swap_g h0]; unfold g_swap; rw [if_pos c18]; exact ⟨rfl, rfl⟩)) dX5_swap_73
    · refine lv_iload_n hx hb dX5_swap_21 rfl (lv_at hl 0 rfl) ?_
      exact rt_i (v := (tb σ j).1) (u := (tb σ j).2) hx hb hr hlocks hS hP ((by rw [swap_g h0]; unfold g_swap; rw [if_neg c18]; exact ⟨rfl, rfl⟩)) dX5_swap_22
set_option maxHeartbeats 4000000 in
set_option maxRecDepth 100000 in
theorem c_X5_polish (l : Launch) (D : va_G) (cA : ClassId) (ad : Nat → Nat) (A : Nat → Prop) (hDD : ∀ u, va_D A (rW ad cA u)) (σ : CS) (k : Int32) (hI : Inv σ) (hg : sGr σ = 0) (hb9 : sBc σ ≤ 1000000000) : Ct l D cA (rW ad cA) A yX5_polish cX5_polish 4 (some .int) 5 105 [.ref (ad 0), .int k] σ (fun r u => r = (f_polish σ k).1 ∧ u = (f_polish σ k).2) := by
  refine Ct.of (by decide) (Nat.le_of_ble_eq_true rfl) ?_
  intro p e s m below meth c ls S0 hr hlocks hK hP hS hl
  obtain ⟨hx, hb, hml, hown, hts⟩ := id S0
  have hl : lv_has ls 4 [(0, .ref (ad 0)), (1, .int k)] := hl
  have hkc := hI.kc
  have hvc := hI.vc
  have hgc := hI.gr
  have htc := hI.tc
  rcases ix_cases (n := sKc σ) k (by omega) with h0 | ⟨j, hj, rfl⟩
  · refine lv_aload_n hx hb dX5_polish_0 rfl (lv_at hl 0 rfl) ?_
    refine lv_iload_n hx hb dX5_polish_1 rfl (lv_at hl 1 rfl) ?_
    refine cl_i (rest := []) (c_X5_isKey l D cA ad A hDD σ k ) ⟨hx, hb, hml, hown, hts⟩ hK hP hS kv_X5_73 ⟨Nat.le_of_ble_eq_true rfl, Nat.le_of_ble_eq_true rfl⟩ ⟨Nat.zero_le _, Nat.zero_le _⟩ 0 rfl rfl rfl hl.1 rfl (Nat.le_of_ble_eq_true rfl) (fun q h => h) dX5_polish_2 (fun r u H locs hw hP hS _ => ?_)
    rw [hw.2] at hP
    refine tp_i (z := (hz (sKc σ) k)) hw.1 ?_
    refine tp_i (z := 0) (hz_0 h0) ?_
    refine lv_if_ne (tgt := 11) hx hb dX5_polish_5 (by decide) (fun c9 => absurd (by decide) c9) (fun _ => ?_)
    refine lv_bipush (v := (-2)) hx hb dX5_polish_8 (by decide) ?_
    exact rt_i (v := (-2)) (u := σ) hx hb hr hlocks hS hP (pr2 (pol_b h0)) dX5_polish_10
  · have h0 := ix_nI hj (n := sKc σ) (by omega)
    refine lv_aload_n hx hb dX5_polish_0 rfl (lv_at hl 0 rfl) ?_
    refine lv_iload_n hx hb dX5_polish_1 rfl (lv_at hl 1 rfl) ?_
    refine cl_i (rest := []) (c_X5_isKey l D cA ad A hDD σ (nI j) ) ⟨hx, hb, hml, hown, hts⟩ hK hP hS kv_X5_73 ⟨Nat.le_of_ble_eq_true rfl, Nat.le_of_ble_eq_true rfl⟩ ⟨Nat.zero_le _, Nat.zero_le _⟩ 0 rfl rfl rfl hl.1 rfl (Nat.le_of_ble_eq_true rfl) (fun q h => h) dX5_polish_2 (fun r u H locs hw hP hS _ => ?_)
    rw [hw.2] at hP
    refine tp_i (z := (hz (sKc σ) (nI j))) hw.1 ?_
    refine tp_i (z := 1) (hz_1 h0) ?_
    refine lv_if_ne (tgt := 11) hx hb dX5_polish_5 (by decide) (fun _ => ?_) (fun c9 => absurd c9 (by decide))
    refine lv_aload_n hx hb dX5_polish_11 rfl (lv_at hl 0 rfl) ?_
    refine lv_iload_n hx hb dX5_polish_12 rfl (lv_at hl 1 rfl) ?_
    refine cl_i (rest := []) (c_X5_turnKey l D cA ad A hDD σ j hI hj (by omega) (by omega)) ⟨hx, hb, hml, hown, hts⟩ hK hP hS kv_X5_95 ⟨Nat.le_of_ble_eq_true rfl, Nat.le_of_ble_eq_true rfl⟩ ⟨Nat.zero_le _, Nat.zero_le _⟩ 0 rfl rfl rfl hl.1 rfl (Nat.le_of_ble_eq_true rfl) (fun q h => h) dX5_polish_13 (fun r u H locs hw hP hS _ => ?_)
    rw [hw.2] at hP
    refine tp_i (z := (tkm σ j).1) hw.1 ?_
    have et : tkm σ j = (0, tn σ j) := tkm_free hI hj hg
    rw [et] at hP
    have hP : va_P D vwCl (rW ad cA (tn σ j)) H := hP
    have hI1 := tn_inv hI hj (key_free hI hj hg) (by omega)
    refine tp_i (z := 0) (by rw [et]) ?_
    refine lv_istore_n (lv' := [(2, .int 0), (0, .ref (ad 0)), (1, .int (nI j))]) hx hb dX5_polish_16 rfl hl (by decide) rfl (fun ls hl => ?_)
    refine lv_iload_n hx hb dX5_polish_17 rfl (lv_at hl 0 rfl) ?_
    refine lv_if_eq (tgt := 23) hx hb dX5_polish_18 (by decide) (fun _ => ?_) (fun c9 => absurd (by decide) c9)
    refine lv_aload_n hx hb dX5_polish_23 rfl (lv_at hl 1 rfl) ?_
    refine va_get (D := D) (ci := 5) (v := .ref (ad 3)) (C := RX5) (T := TX5) (N := 20) hx hb hts in_X5 hown hK hP 0 rfl rfl 2 (by decide) (hts _ kf_X5_16) (fun _ h9 => h9) rfl dX5_polish_24 ?_
    refine lv_iload_n hx hb dX5_polish_27 rfl (lv_at hl 2 rfl) ?_
    refine ar_g hx hb hK hP 3 rfl (by omega) (by decide) dX5_polish_28 ?_
    refine lv_istore_n (lv' := [(3, .int (sWea (tn σ j) j)), (2, .int 0), (0, .ref (ad 0)), (1, .int (nI j))]) hx hb dX5_polish_29 rfl hl (by decide) rfl (fun ls hl => ?_)
    refine lv_aload_n hx hb dX5_polish_30 rfl (lv_at hl 2 rfl) ?_
    refine va_get (D := D) (ci := 5) (v := .ref (ad 3)) (C := RX5) (T := TX5) (N := 20) hx hb hts in_X5 hown hK hP 0 rfl rfl 2 (by decide) (hts _ kf_X5_16) (fun _ h9 => h9) rfl dX5_polish_31 ?_
    refine lv_iload_n hx hb dX5_polish_34 rfl (lv_at hl 3 rfl) ?_
    refine lv_iconst (v := 0) hx hb dX5_polish_35 (by decide) ?_
    refine ar_p hx hb hK hP (hDD _) hS 3 rfl (x := 0) (by omega) (by decide) dX5_polish_36 (fun H locs hP hS => ?_)
    have hP : va_P D vwCl (rW ad cA (((sTee (tn σ j)), (sStr (tn σ j)), (upd (sWea (tn σ j)) j 0), (sHel (tn σ j)), (sKc (tn σ j))), (tn σ j).2.1, (tn σ j).2.2.1, (tn σ j).2.2.2.1, (tn σ j).2.2.2.2)) H := hP
    refine lv_aload_n hx hb dX5_polish_37 rfl (lv_at hl 2 rfl) ?_
    refine lv_iload_n hx hb dX5_polish_38 rfl (lv_at hl 0 rfl) ?_
    refine cl_i (rest := []) (c_X5_ended l D cA ad A hDD (((sTee (tn σ j)), (sStr (tn σ j)), (upd (sWea (tn σ j)) j 0), (sHel (tn σ j)), (sKc (tn σ j))), (tn σ j).2.1, (tn σ j).2.2.1, (tn σ j).2.2.2.1, (tn σ j).2.2.2.2) (sWea (tn σ j) j) (pol_inv hI1 hj) (by show sBc σ + 1 + (sGr σ + 1) < 2147483647; omega)) ⟨hx, hb, hml, hown, hts⟩ hK hP hS kv_X5_109 ⟨Nat.le_of_ble_eq_true rfl, Nat.le_of_ble_eq_true rfl⟩ ⟨Nat.zero_le _, Nat.zero_le _⟩ 0 rfl rfl rfl hl.1 rfl (Nat.le_of_ble_eq_true rfl) (fun q h => h) dX5_polish_39 (fun r u H locs hw hP hS _ => ?_)
    rw [hw.2] at hP
    refine tp_i (z := (sWea (tn σ j) j)) hw.1 ?_
    exact rt_i (v := (sWea (tn σ j) j)) (u := (da 200 (((sTee (tn σ j)), (sStr (tn σ j)), (upd (sWea (tn σ j)) j 0), (sHel (tn σ j)), (sKc (tn σ j))), (tn σ j).2.1, (tn σ j).2.2.1, (tn σ j).2.2.2.1, (tn σ j).2.2.2.2))) hx hb hr hlocks hS hP (pr2 (pol_g h0)) dX5_polish_42
set_option maxHeartbeats 4000000 in
set_option maxRecDepth 100000 in
theorem c_X5_sum (l : Launch) (D : va_G) (cA : ClassId) (ad : Nat → Nat) (A : Nat → Prop) (hDD : ∀ u, va_D A (rW ad cA u)) (σ : CS) (v : Int32) (hI : Inv σ) (hg : sGr σ = 0) (hb9 : sBc σ ≤ 1000000000) : Ct l D cA (rW ad cA) A yX5_sum cX5_sum 2 (some .int) 1 21 [.ref (ad 0), .int v] σ (fun r u => r = f_sum σ v ∧ u = σ) := by
  refine Ct.of (by decide) (Nat.le_of_ble_eq_true rfl) ?_
  intro p e s m below meth c ls S0 hr hlocks hK hP hS hl
  obtain ⟨hx, hb, hml, hown, hts⟩ := id S0
  have hl : lv_has ls 2 [(0, .ref (ad 0)), (1, .int v)] := hl
  have hkc := hI.kc
  have hvc := hI.vc
  have hgc := hI.gr
  have htc := hI.tc
  rcases ix_cases (n := sVc σ) v (by omega) with h0 | ⟨j, hj, rfl⟩
  · refine lv_aload_n hx hb dX5_sum_0 rfl (lv_at hl 0 rfl) ?_
    refine lv_iload_n hx hb dX5_sum_1 rfl (lv_at hl 1 rfl) ?_
    refine cl_i (rest := []) (c_X5_isVault l D cA ad A hDD σ v ) ⟨hx, hb, hml, hown, hts⟩ hK hP hS kv_X5_67 ⟨Nat.le_of_ble_eq_true rfl, Nat.le_of_ble_eq_true rfl⟩ ⟨Nat.zero_le _, Nat.zero_le _⟩ 0 rfl rfl rfl hl.1 rfl (Nat.le_of_ble_eq_true rfl) (fun q h => h) dX5_sum_2 (fun r u H locs hw hP hS _ => ?_)
    rw [hw.2] at hP
    refine tp_i (z := (hz (sVc σ) v)) hw.1 ?_
    refine tp_i (z := 0) (hz_0 h0) ?_
    refine lv_if_eq (tgt := 17) hx hb dX5_sum_5 (by decide) (fun _ => ?_) (fun c9 => absurd (by decide) c9)
    refine lv_bipush (v := (-2)) hx hb dX5_sum_17 (by decide) ?_
    exact rt_i (v := (-2)) (u := σ) hx hb hr hlocks hS hP (⟨(sum_n h0).symm, rfl⟩) dX5_sum_19
  · have h0 := ix_nI hj (n := sVc σ) (by omega)
    refine lv_aload_n hx hb dX5_sum_0 rfl (lv_at hl 0 rfl) ?_
    refine lv_iload_n hx hb dX5_sum_1 rfl (lv_at hl 1 rfl) ?_
    refine cl_i (rest := []) (c_X5_isVault l D cA ad A hDD σ (nI j) ) ⟨hx, hb, hml, hown, hts⟩ hK hP hS kv_X5_67 ⟨Nat.le_of_ble_eq_true rfl, Nat.le_of_ble_eq_true rfl⟩ ⟨Nat.zero_le _, Nat.zero_le _⟩ 0 rfl rfl rfl hl.1 rfl (Nat.le_of_ble_eq_true rfl) (fun q h => h) dX5_sum_2 (fun r u H locs hw hP hS _ => ?_)
    rw [hw.2] at hP
    refine tp_i (z := (hz (sVc σ) (nI j))) hw.1 ?_
    refine tp_i (z := 1) (hz_1 h0) ?_
    refine lv_if_eq (tgt := 17) hx hb dX5_sum_5 (by decide) (fun c9 => absurd c9 (by decide)) (fun _ => ?_)
    refine lv_aload_n hx hb dX5_sum_8 rfl (lv_at hl 0 rfl) ?_
    refine va_get (D := D) (ci := 5) (v := .ref (ad 5)) (C := RX5) (T := TX5) (N := 20) hx hb hts in_X5 hown hK hP 0 rfl rfl 5 (by decide) (hts _ kf_X5_22) (fun _ h9 => h9) rfl dX5_sum_9 ?_
    refine lv_iload_n hx hb dX5_sum_12 rfl (lv_at hl 1 rfl) ?_
    refine ar_g hx hb hK hP 5 rfl (by omega) (by decide) dX5_sum_13 ?_
    refine lv_goto (tgt := 19) hx hb dX5_sum_14 (by decide) ?_
    exact rt_i (v := (sSm σ j)) (u := σ) hx hb hr hlocks hS hP (⟨(sum_s h0).symm, rfl⟩) dX5_sum_19
set_option maxHeartbeats 4000000 in
set_option maxRecDepth 100000 in
theorem c_X5_wear (l : Launch) (D : va_G) (cA : ClassId) (ad : Nat → Nat) (A : Nat → Prop) (hDD : ∀ u, va_D A (rW ad cA u)) (σ : CS) (k : Int32) (hI : Inv σ) (hg : sGr σ = 0) (hb9 : sBc σ ≤ 1000000000) : Ct l D cA (rW ad cA) A yX5_wear cX5_wear 2 (some .int) 1 21 [.ref (ad 0), .int k] σ (fun r u => r = f_wear σ k ∧ u = σ) := by
  refine Ct.of (by decide) (Nat.le_of_ble_eq_true rfl) ?_
  intro p e s m below meth c ls S0 hr hlocks hK hP hS hl
  obtain ⟨hx, hb, hml, hown, hts⟩ := id S0
  have hl : lv_has ls 2 [(0, .ref (ad 0)), (1, .int k)] := hl
  have hkc := hI.kc
  have hvc := hI.vc
  have hgc := hI.gr
  have htc := hI.tc
  rcases ix_cases (n := sKc σ) k (by omega) with h0 | ⟨j, hj, rfl⟩
  · refine lv_aload_n hx hb dX5_wear_0 rfl (lv_at hl 0 rfl) ?_
    refine lv_iload_n hx hb dX5_wear_1 rfl (lv_at hl 1 rfl) ?_
    refine cl_i (rest := []) (c_X5_isKey l D cA ad A hDD σ k ) ⟨hx, hb, hml, hown, hts⟩ hK hP hS kv_X5_73 ⟨Nat.le_of_ble_eq_true rfl, Nat.le_of_ble_eq_true rfl⟩ ⟨Nat.zero_le _, Nat.zero_le _⟩ 0 rfl rfl rfl hl.1 rfl (Nat.le_of_ble_eq_true rfl) (fun q h => h) dX5_wear_2 (fun r u H locs hw hP hS _ => ?_)
    rw [hw.2] at hP
    refine tp_i (z := (hz (sKc σ) k)) hw.1 ?_
    refine tp_i (z := 0) (hz_0 h0) ?_
    refine lv_if_eq (tgt := 17) hx hb dX5_wear_5 (by decide) (fun _ => ?_) (fun c9 => absurd (by decide) c9)
    refine lv_bipush (v := (-2)) hx hb dX5_wear_17 (by decide) ?_
    exact rt_i (v := (-2)) (u := σ) hx hb hr hlocks hS hP (⟨(wear_n h0).symm, rfl⟩) dX5_wear_19
  · have h0 := ix_nI hj (n := sKc σ) (by omega)
    refine lv_aload_n hx hb dX5_wear_0 rfl (lv_at hl 0 rfl) ?_
    refine lv_iload_n hx hb dX5_wear_1 rfl (lv_at hl 1 rfl) ?_
    refine cl_i (rest := []) (c_X5_isKey l D cA ad A hDD σ (nI j) ) ⟨hx, hb, hml, hown, hts⟩ hK hP hS kv_X5_73 ⟨Nat.le_of_ble_eq_true rfl, Nat.le_of_ble_eq_true rfl⟩ ⟨Nat.zero_le _, Nat.zero_le _⟩ 0 rfl rfl rfl hl.1 rfl (Nat.le_of_ble_eq_true rfl) (fun q h => h) dX5_wear_2 (fun r u H locs hw hP hS _ => ?_)
    rw [hw.2] at hP
    refine tp_i (z := (hz (sKc σ) (nI j))) hw.1 ?_
    refine tp_i (z := 1) (hz_1 h0) ?_
    refine lv_if_eq (tgt := 17) hx hb dX5_wear_5 (by decide) (fun c9 => absurd c9 (by decide)) (fun _ => ?_)
    refine lv_aload_n hx hb dX5_wear_8 rfl (lv_at hl 0 rfl) ?_
    refine va_get (D := D) (ci := 5) (v := .ref (ad 3)) (C := RX5) (T := TX5) (N := 20) hx hb hts in_X5 hown hK hP 0 rfl rfl 2 (by decide) (hts _ kf_X5_16) (fun _ h9 => h9) rfl dX5_wear_9 ?_
    refine lv_iload_n hx hb dX5_wear_12 rfl (lv_at hl 1 rfl) ?_
    refine ar_g hx hb hK hP 3 rfl (by omega) (by decide) dX5_wear_13 ?_
    refine lv_goto (tgt := 19) hx hb dX5_wear_14 (by decide) ?_
    exact rt_i (v := (sWea σ j)) (u := σ) hx hb hr hlocks hS hP (⟨(wear_s h0).symm, rfl⟩) dX5_wear_19
set_option maxHeartbeats 4000000 in
set_option maxRecDepth 100000 in
theorem c_X5_entries (l : Launch) (D : va_G) (cA : ClassId) (ad : Nat → Nat) (A : Nat → Prop) (hDD : ∀ u, va_D A (rW ad cA u)) (σ : CS) (hI : Inv σ) (hg : sGr σ = 0) (hb9 : sBc σ ≤ 1000000000) : Ct l D cA (rW ad cA) A yX5_entries cX5_entries 1 (some .int) 0 0 [.ref (ad 0)] σ (fun r u => r = nI (sBc σ) ∧ u = σ) := by
  refine Ct.of (by decide) (Nat.le_of_ble_eq_true rfl) ?_
  intro p e s m below meth c ls S0 hr hlocks hK hP hS hl
  obtain ⟨hx, hb, hml, hown, hts⟩ := id S0
  have hl : lv_has ls 1 [(0, .ref (ad 0))] := hl
  have hkc := hI.kc
  have hvc := hI.vc
  have hgc := hI.gr
  have htc := hI.tc
  refine lv_aload_n hx hb dX5_entries_0 rfl (lv_at hl 0 rfl) ?_
  refine va_get (D := D) (ci := 5) (v := .int (nI (sBc σ))) (C := RX5) (T := TX5) (N := 20) hx hb hts in_X5 hown hK hP 0 rfl rfl 13 (by decide) (hts _ kf_X5_60) (fun _ h9 => h9) rfl dX5_entries_1 ?_
  exact rt_i (v := (nI (sBc σ))) (u := σ) hx hb hr hlocks hS hP (⟨rfl, rfl⟩) dX5_entries_4
set_option maxHeartbeats 4000000 in
set_option maxRecDepth 100000 in
theorem c_X5_clear (l : Launch) (D : va_G) (cA : ClassId) (ad : Nat → Nat) (A : Nat → Prop) (hDD : ∀ u, va_D A (rW ad cA u)) (σ : CS) (hI : Inv σ) (hg : sGr σ = 0) (hb9 : sBc σ ≤ 1000000000) : Ct l D cA (rW ad cA) A yX5_clear cX5_clear 2 (some .int) 0 0 [.ref (ad 0)] σ (fun r u => r = nI (sBc σ) ∧ u = sbc σ 0) := by
  refine Ct.of (by decide) (Nat.le_of_ble_eq_true rfl) ?_
  intro p e s m below meth c ls S0 hr hlocks hK hP hS hl
  obtain ⟨hx, hb, hml, hown, hts⟩ := id S0
  have hl : lv_has ls 2 [(0, .ref (ad 0))] := hl
  have hkc := hI.kc
  have hvc := hI.vc
  have hgc := hI.gr
  have htc := hI.tc
  refine lv_aload_n hx hb dX5_clear_0 rfl (lv_at hl 0 rfl) ?_
  refine va_get (D := D) (ci := 5) (v := .int (nI (sBc σ))) (C := RX5) (T := TX5) (N := 20) hx hb hts in_X5 hown hK hP 0 rfl rfl 13 (by decide) (hts _ kf_X5_60) (fun _ h9 => h9) rfl dX5_clear_1 ?_
  refine lv_istore_n (lv' := [(1, .int (nI (sBc σ))), (0, .ref (ad 0))]) hx hb dX5_clear_4 rfl hl (by decide) rfl (fun ls hl => ?_)
  refine lv_aload_n hx hb dX5_clear_5 rfl (lv_at hl 1 rfl) ?_
  refine lv_iconst (v := 0) hx hb dX5_clear_6 (by decide) ?_
  refine tp_i (z := (nI 0)) nI_0.symm ?_
  refine va_put (D := D) (ci := 5) (v := .int (nI 0)) (ty := .int) (C := RX5) (T := TX5) (N := 20) hx hb hts in_X5 tyX5 tyX5_ok nmX5 hown hK hP (hDD _) hS 0 rfl rfl 13 (by decide) (hts _ kf_X5_60) (fun _ h9 => h9) rfl (by decide +kernel) rfl rfl (Nat.le_of_ble_eq_true rfl) dX5_clear_7 (fun H locs hP _ hS => ?_)
  have hP : va_P D vwCl (rW ad cA (σ.1, σ.2.1, ((sKp σ), 0), σ.2.2.2.1, σ.2.2.2.2)) H := hP
  refine lv_iload_n hx hb dX5_clear_10 rfl (lv_at hl 0 rfl) ?_
  exact rt_i (v := (nI (sBc σ))) (u := (σ.1, σ.2.1, ((sKp σ), 0), σ.2.2.2.1, σ.2.2.2.2)) hx hb hr hlocks hS hP (⟨rfl, rfl⟩) dX5_clear_11
set_option maxHeartbeats 4000000 in
set_option maxRecDepth 100000 in
theorem c_X5_alarms (l : Launch) (D : va_G) (cA : ClassId) (ad : Nat → Nat) (A : Nat → Prop) (hDD : ∀ u, va_D A (rW ad cA u)) (σ : CS) (hI : Inv σ) (hg : sGr σ = 0) (hb9 : sBc σ ≤ 1000000000) : Ct l D cA (rW ad cA) A yX5_alarms cX5_alarms 1 (some .int) 0 0 [.ref (ad 0)] σ (fun r u => r = sAl σ ∧ u = σ) := by
  refine Ct.of (by decide) (Nat.le_of_ble_eq_true rfl) ?_
  intro p e s m below meth c ls S0 hr hlocks hK hP hS hl
  obtain ⟨hx, hb, hml, hown, hts⟩ := id S0
  have hl : lv_has ls 1 [(0, .ref (ad 0))] := hl
  have hkc := hI.kc
  have hvc := hI.vc
  have hgc := hI.gr
  have htc := hI.tc
  refine lv_aload_n hx hb dX5_alarms_0 rfl (lv_at hl 0 rfl) ?_
  refine va_get (D := D) (ci := 5) (v := .int (sAl σ)) (C := RX5) (T := TX5) (N := 20) hx hb hts in_X5 hown hK hP 0 rfl rfl 14 (by decide) (hts _ kf_X5_89) (fun _ h9 => h9) rfl dX5_alarms_1 ?_
  exact rt_i (v := (sAl σ)) (u := σ) hx hb hr hlocks hS hP (⟨rfl, rfl⟩) dX5_alarms_4
set_option maxHeartbeats 4000000 in
set_option maxRecDepth 100000 in
theorem c_X5_orders (l : Launch) (D : va_G) (cA : ClassId) (ad : Nat → Nat) (A : Nat → Prop) (hDD : ∀ u, va_D A (rW ad cA u)) (σ : CS) (hI : Inv σ) (hg : sGr σ = 0) (hb9 : sBc σ ≤ 1000000000) : Ct l D cA (rW ad cA) A yX5_orders cX5_orders 1 (some .int) 0 0 [.ref (ad 0)] σ (fun r u => r = nI (sTc σ) ∧ u = σ) := by
  refine Ct.of (by decide) (Nat.le_of_ble_eq_true rfl) ?_
  intro p e s m below meth c ls S0 hr hlocks hK hP hS hl
  obtain ⟨hx, hb, hml, hown, hts⟩ := id S0
  have hl : lv_has ls 1 [(0, .ref (ad 0))] := hl
  have hkc := hI.kc
  have hvc := hI.vc
  have hgc := hI.gr
  have htc := hI.tc
  refine lv_aload_n hx hb dX5_orders_0 rfl (lv_at hl 0 rfl) ?_
  refine va_get (D := D) (ci := 5) (v := .int (nI (sTc σ))) (C := RX5) (T := TX5) (N := 20) hx hb hts in_X5 hown hK hP 0 rfl rfl 19 (by decide) (hts _ kf_X5_122) (fun _ h9 => h9) rfl dX5_orders_1 ?_
  exact rt_i (v := (nI (sTc σ))) (u := σ) hx hb hr hlocks hS hP (⟨rfl, rfl⟩) dX5_orders_4
set_option maxHeartbeats 4000000 in
set_option maxRecDepth 100000 in
theorem c_X5_hung (l : Launch) (D : va_G) (cA : ClassId) (ad : Nat → Nat) (A : Nat → Prop) (hDD : ∀ u, va_D A (rW ad cA u)) (σ : CS) (v h : Int32) (hI : Inv σ) (hg : sGr σ = 0) (hb9 : sBc σ ≤ 1000000000) : Ct l D cA (rW ad cA) A yX5_hung cX5_hung 3 (some .int) 1 21 [.ref (ad 0), .int v, .int h] σ (fun r u => r = f_hung σ v h ∧ u = σ) := by
  refine Ct.of (by decide) (Nat.le_of_ble_eq_true rfl) ?_
  intro p e s m below meth c ls S0 hr hlocks hK hP hS hl
  obtain ⟨hx, hb, hml, hown, hts⟩ := id S0
  have hl : lv_has ls 3 [(0, .ref (ad 0)), (1, .int v), (2, .int h)] := hl
  have hkc := hI.kc
  have hvc := hI.vc
  have hgc := hI.gr
  have htc := hI.tc
  rcases ix_cases (n := sVc σ) v (by omega) with h0 | ⟨j, hj, rfl⟩
  · refine lv_aload_n hx hb dX5_hung_0 rfl (lv_at hl 0 rfl) ?_
    refine lv_iload_n hx hb dX5_hung_1 rfl (lv_at hl 1 rfl) ?_
    refine cl_i (rest := []) (c_X5_isVault l D cA ad A hDD σ v ) ⟨hx, hb, hml, hown, hts⟩ hK hP hS kv_X5_67 ⟨Nat.le_of_ble_eq_true rfl, Nat.le_of_ble_eq_true rfl⟩ ⟨Nat.zero_le _, Nat.zero_le _⟩ 0 rfl rfl rfl hl.1 rfl (Nat.le_of_ble_eq_true rfl) (fun q h => h) dX5_hung_2 (fun r u H locs hw hP hS _ => ?_)
    rw [hw.2] at hP
    refine tp_i (z := (hz (sVc σ) v)) hw.1 ?_
    refine tp_i (z := 0) (hz_0 h0) ?_
    refine lv_if_eq (tgt := 28) hx hb dX5_hung_5 (by decide) (fun _ => ?_) (fun c9 => absurd (by decide) c9)
    refine lv_bipush (v := (-2)) hx hb dX5_hung_28 (by decide) ?_
    exact rt_i (v := (-2)) (u := σ) hx hb hr hlocks hS hP (⟨(hung_n h0).symm, rfl⟩) dX5_hung_30
  · have h0 := ix_nI hj (n := sVc σ) (by omega)
    refine lv_aload_n hx hb dX5_hung_0 rfl (lv_at hl 0 rfl) ?_
    refine lv_iload_n hx hb dX5_hung_1 rfl (lv_at hl 1 rfl) ?_
    refine cl_i (rest := []) (c_X5_isVault l D cA ad A hDD σ (nI j) ) ⟨hx, hb, hml, hown, hts⟩ hK hP hS kv_X5_67 ⟨Nat.le_of_ble_eq_true rfl, Nat.le_of_ble_eq_true rfl⟩ ⟨Nat.zero_le _, Nat.zero_le _⟩ 0 rfl rfl rfl hl.1 rfl (Nat.le_of_ble_eq_true rfl) (fun q h => h) dX5_hung_2 (fun r u H locs hw hP hS _ => ?_)
    rw [hw.2] at hP
    refine tp_i (z := (hz (sVc σ) (nI j))) hw.1 ?_
    refine tp_i (z := 1) (hz_1 h0) ?_
    refine lv_if_eq (tgt := 28) hx hb dX5_hung_5 (by decide) (fun c9 => absurd c9 (by decide)) (fun _ => ?_)
    by_cases hh : okh h
    · skip
      refine lv_iload_n hx hb dX5_hung_8 rfl (lv_at hl 2 rfl) ?_
      refine cl_s (rest := []) (c_X5_isHand l D cA ad A hDD σ h ) ⟨hx, hb, hml, hown, hts⟩ hK hP hS kv_X5_70 ⟨Nat.le_of_ble_eq_true rfl, Nat.le_of_ble_eq_true rfl⟩ ⟨Nat.zero_le _, Nat.zero_le _⟩ rfl hl.1 rfl (Nat.le_of_ble_eq_true rfl) (fun q h => h) dX5_hung_9 (fun r u H locs hw hP hS => ?_)
      rw [hw.2] at hP
      refine tp_i (z := (bz (okh h))) hw.1 ?_
      refine tp_i (z := 1) (bz_1 hh) ?_
      refine lv_if_eq (tgt := 28) hx hb dX5_hung_12 (by decide) (fun c9 => absurd c9 (by decide)) (fun _ => ?_)
      rcases hh with rfl | rfl
      · skip
        refine lv_aload_n hx hb dX5_hung_15 rfl (lv_at hl 0 rfl) ?_
        refine va_get (D := D) (ci := 5) (v := .ref (ad 8)) (C := RX5) (T := TX5) (N := 20) hx hb hts in_X5 hown hK hP 0 rfl rfl 8 (by decide) (hts _ kf_X5_31) (fun _ h9 => h9) rfl dX5_hung_16 ?_
        refine lv_iconst (v := 2) hx hb dX5_hung_19 (by decide) ?_
        refine lv_iload_n hx hb dX5_hung_20 rfl (lv_at hl 1 rfl) ?_
        refine lv_imul hx hb dX5_hung_21 ?_
        refine tp_i (z := (nI (2 * j))) (pk_mul 2 _) ?_
        refine lv_iload_n hx hb dX5_hung_22 rfl (lv_at hl 2 rfl) ?_
        refine lv_iadd hx hb dX5_hung_23 ?_
        refine tp_i (z := (nI (2 * j))) (Int32.add_zero _) ?_
        refine ar_g hx hb hK hP 8 rfl (by omega) (by decide) dX5_hung_24 ?_
        refine tp_i (z := (sLf σ j)) (mix_0 _ _ _) ?_
        refine lv_goto (tgt := 30) hx hb dX5_hung_25 (by decide) ?_
        exact rt_i (v := (sLf σ j)) (u := σ) hx hb hr hlocks hS hP (⟨((hung_s h0 (Or.inl rfl)).trans (hd_0 _ _)).symm, rfl⟩) dX5_hung_30
      · skip
        refine lv_aload_n hx hb dX5_hung_15 rfl (lv_at hl 0 rfl) ?_
        refine va_get (D := D) (ci := 5) (v := .ref (ad 8)) (C := RX5) (T := TX5) (N := 20) hx hb hts in_X5 hown hK hP 0 rfl rfl 8 (by decide) (hts _ kf_X5_31) (fun _ h9 => h9) rfl dX5_hung_16 ?_
        refine lv_iconst (v := 2) hx hb dX5_hung_19 (by decide) ?_
        refine lv_iload_n hx hb dX5_hung_20 rfl (lv_at hl 1 rfl) ?_
        refine lv_imul hx hb dX5_hung_21 ?_
        refine tp_i (z := (nI (2 * j))) (pk_mul 2 _) ?_
        refine lv_iload_n hx hb dX5_hung_22 rfl (lv_at hl 2 rfl) ?_
        refine lv_iadd hx hb dX5_hung_23 ?_
        refine tp_i (z := (nI ((2 * j) + 1))) (nI_1 _) ?_
        refine ar_g hx hb hK hP 8 rfl (by omega) (by decide) dX5_hung_24 ?_
        refine tp_i (z := (sRt σ j)) (mix_1 _ _ _) ?_
        refine lv_goto (tgt := 30) hx hb dX5_hung_25 (by decide) ?_
        exact rt_i (v := (sRt σ j)) (u := σ) hx hb hr hlocks hS hP (⟨((hung_s h0 (Or.inr rfl)).trans (hd_1 _ _)).symm, rfl⟩) dX5_hung_30
    · skip
      refine lv_iload_n hx hb dX5_hung_8 rfl (lv_at hl 2 rfl) ?_
      refine cl_s (rest := []) (c_X5_isHand l D cA ad A hDD σ h ) ⟨hx, hb, hml, hown, hts⟩ hK hP hS kv_X5_70 ⟨Nat.le_of_ble_eq_true rfl, Nat.le_of_ble_eq_true rfl⟩ ⟨Nat.zero_le _, Nat.zero_le _⟩ rfl hl.1 rfl (Nat.le_of_ble_eq_true rfl) (fun q h => h) dX5_hung_9 (fun r u H locs hw hP hS => ?_)
      rw [hw.2] at hP
      refine tp_i (z := (bz (okh h))) hw.1 ?_
      refine tp_i (z := 0) (bz_0 hh) ?_
      refine lv_if_eq (tgt := 28) hx hb dX5_hung_12 (by decide) (fun _ => ?_) (fun c9 => absurd (by decide) c9)
      refine lv_bipush (v := (-2)) hx hb dX5_hung_28 (by decide) ?_
      exact rt_i (v := (-2)) (u := σ) hx hb hr hlocks hS hP (⟨(hung_b h0 hh).symm, rfl⟩) dX5_hung_30
set_option maxHeartbeats 4000000 in
set_option maxRecDepth 100000 in
theorem c_X5_isOrder (l : Launch) (D : va_G) (cA : ClassId) (ad : Nat → Nat) (A : Nat → Prop) (hDD : ∀ u, va_D A (rW ad cA u)) (σ : CS) (o v w n : Int32) (hI : Inv σ) : Ct l D cA (rW ad cA) A yX5_isOrder cX5_isOrder 5 (some .boolean) 1 21 [.ref (ad 0), .int o, .int v, .int w, .int n] σ (fun r u => r = bz (isO σ o v w n) ∧ u = σ) := by
  refine Ct.of (by decide) (Nat.le_of_ble_eq_true rfl) ?_
  intro p e s m below meth c ls S0 hr hlocks hK hP hS hl
  obtain ⟨hx, hb, hml, hown, hts⟩ := id S0
  have hl : lv_has ls 5 [(0, .ref (ad 0)), (1, .int o), (2, .int v), (3, .int w), (4, .int n)] := hl
  have hkc := hI.kc
  have hvc := hI.vc
  have hgc := hI.gr
  have htc := hI.tc
  rcases o5 o with rfl | rfl | rfl | rfl | rfl | ho
  · skip
    refine lv_iload_n hx hb dX5_isOrder_0 rfl (lv_at hl 1 rfl) ?_
    refine lv_iconst (v := 4) hx hb dX5_isOrder_1 (by decide) ?_
    refine lv_icmp_ne (tgt := 7) hx hb dX5_isOrder_2 (by decide) (fun _ => ?_) (fun c9 => absurd c9 (by decide))
    refine lv_iload_n hx hb dX5_isOrder_7 rfl (lv_at hl 1 rfl) ?_
    refine lv_if_lt (tgt := 24) hx hb dX5_isOrder_8 (by decide) (fun c9 => absurd c9 (by decide)) (fun _ => ?_)
    refine lv_iload_n hx hb dX5_isOrder_11 rfl (lv_at hl 1 rfl) ?_
    refine lv_iconst (v := 4) hx hb dX5_isOrder_12 (by decide) ?_
    refine lv_icmp_gt (tgt := 24) hx hb dX5_isOrder_13 (by decide) (fun c9 => absurd c9 (by decide)) (fun _ => ?_)
    rcases ix_cases (n := sVc σ) v (by omega) with h0 | ⟨j, hj, rfl⟩
    · refine lv_aload_n hx hb dX5_isOrder_16 rfl (lv_at hl 0 rfl) ?_
      refine lv_iload_n hx hb dX5_isOrder_17 rfl (lv_at hl 2 rfl) ?_
      refine cl_i (rest := []) (c_X5_isVault l D cA ad A hDD σ v ) ⟨hx, hb, hml, hown, hts⟩ hK hP hS kv_X5_67 ⟨Nat.le_of_ble_eq_true rfl, Nat.le_of_ble_eq_true rfl⟩ ⟨Nat.zero_le _, Nat.zero_le _⟩ 0 rfl rfl rfl hl.1 rfl (Nat.le_of_ble_eq_true rfl) (fun q h => h) dX5_isOrder_18 (fun r u H locs hw hP hS _ => ?_)
      rw [hw.2] at hP
      refine tp_i (z := (hz (sVc σ) v)) hw.1 ?_
      refine tp_i (z := 0) (hz_0 h0) ?_
      refine lv_if_ne (tgt := 26) hx hb dX5_isOrder_21 (by decide) (fun c9 => absurd (by decide) c9) (fun _ => ?_)
      refine lv_iconst (v := 0) hx hb dX5_isOrder_24 (by decide) ?_
      exact rt_z (v := 0) (u := σ) hx hb hr hlocks rfl hS hP (⟨(bz_0 (fun q => ix_none_s h0 (isO_v q (by decide)))).symm, rfl⟩) dX5_isOrder_25
    · have h0 := ix_nI hj (n := sVc σ) (by omega)
      refine lv_aload_n hx hb dX5_isOrder_16 rfl (lv_at hl 0 rfl) ?_
      refine lv_iload_n hx hb dX5_isOrder_17 rfl (lv_at hl 2 rfl) ?_
      refine cl_i (rest := []) (c_X5_isVault l D cA ad A hDD σ (nI j) ) ⟨hx, hb, hml, hown, hts⟩ hK hP hS kv_X5_67 ⟨Nat.le_of_ble_eq_true rfl, Nat.le_of_ble_eq_true rfl⟩ ⟨Nat.zero_le _, Nat.zero_le _⟩ 0 rfl rfl rfl hl.1 rfl (Nat.le_of_ble_eq_true rfl) (fun q h => h) dX5_isOrder_18 (fun r u H locs hw hP hS _ => ?_)
      rw [hw.2] at hP
      refine tp_i (z := (hz (sVc σ) (nI j))) hw.1 ?_
      refine tp_i (z := 1) (hz_1 h0) ?_
      refine lv_if_ne (tgt := 26) hx hb dX5_isOrder_21 (by decide) (fun _ => ?_) (fun c9 => absurd c9 (by decide))
      refine lv_iload_n hx hb dX5_isOrder_26 rfl (lv_at hl 1 rfl) ?_
      refine lv_iconst (v := 3) hx hb dX5_isOrder_27 (by decide) ?_
      refine lv_icmp_ne (tgt := 33) hx hb dX5_isOrder_28 (by decide) (fun _ => ?_) (fun c9 => absurd c9 (by decide))
      by_cases hn : amt n
      · skip
        refine lv_iload hx hb dX5_isOrder_33 (lv_at hl 4 rfl) ?_
        refine cl_s (rest := []) (c_X5_isAmount l D cA ad A hDD σ n ) ⟨hx, hb, hml, hown, hts⟩ hK hP hS kv_X5_63 ⟨Nat.le_of_ble_eq_true rfl, Nat.le_of_ble_eq_true rfl⟩ ⟨Nat.zero_le _, Nat.zero_le _⟩ rfl hl.1 rfl (Nat.le_of_ble_eq_true rfl) (fun q h => h) dX5_isOrder_35 (fun r u H locs hw hP hS => ?_)
        rw [hw.2] at hP
        refine tp_i (z := (bz (amt n))) hw.1 ?_
        refine tp_i (z := 1) (bz_1 hn) ?_
        refine lv_if_eq (tgt := 58) hx hb dX5_isOrder_38 (by decide) (fun c9 => absurd c9 (by decide)) (fun _ => ?_)
        refine lv_iload_n hx hb dX5_isOrder_41 rfl (lv_at hl 1 rfl) ?_
        refine lv_iconst (v := 2) hx hb dX5_isOrder_42 (by decide) ?_
        refine lv_icmp_ne (tgt := 54) hx hb dX5_isOrder_43 (by decide) (fun _ => ?_) (fun c9 => absurd c9 (by decide))
        refine lv_iconst (v := 1) hx hb dX5_isOrder_54 (by decide) ?_
        refine lv_goto (tgt := 59) hx hb dX5_isOrder_55 (by decide) ?_
        exact rt_z (v := 1) (u := σ) hx hb hr hlocks rfl hS hP (⟨(bz_1 (Or.inl ⟨Or.inl rfl, ix_some_s h0, hn⟩)).symm, rfl⟩) dX5_isOrder_59
      · skip
        refine lv_iload hx hb dX5_isOrder_33 (lv_at hl 4 rfl) ?_
        refine cl_s (rest := []) (c_X5_isAmount l D cA ad A hDD σ n ) ⟨hx, hb, hml, hown, hts⟩ hK hP hS kv_X5_63 ⟨Nat.le_of_ble_eq_true rfl, Nat.le_of_ble_eq_true rfl⟩ ⟨Nat.zero_le _, Nat.zero_le _⟩ rfl hl.1 rfl (Nat.le_of_ble_eq_true rfl) (fun q h => h) dX5_isOrder_35 (fun r u H locs hw hP hS => ?_)
        rw [hw.2] at hP
        refine tp_i (z := (bz (amt n))) hw.1 ?_
        refine tp_i (z := 0) (bz_0 hn) ?_
        refine lv_if_eq (tgt := 58) hx hb dX5_isOrder_38 (by decide) (fun _ => ?_) (fun c9 => absurd (by decide) c9)
        refine lv_iconst (v := 0) hx hb dX5_isOrder_58 (by decide) ?_
        exact rt_z (v := 0) (u := σ) hx hb hr hlocks rfl hS hP (⟨(bz_0 (fun q => hn (isO_n q (by decide) (by decide)))).symm, rfl⟩) dX5_isOrder_59
  · skip
    refine lv_iload_n hx hb dX5_isOrder_0 rfl (lv_at hl 1 rfl) ?_
    refine lv_iconst (v := 4) hx hb dX5_isOrder_1 (by decide) ?_
    refine lv_icmp_ne (tgt := 7) hx hb dX5_isOrder_2 (by decide) (fun _ => ?_) (fun c9 => absurd c9 (by decide))
    refine lv_iload_n hx hb dX5_isOrder_7 rfl (lv_at hl 1 rfl) ?_
    refine lv_if_lt (tgt := 24) hx hb dX5_isOrder_8 (by decide) (fun c9 => absurd c9 (by decide)) (fun _ => ?_)
    refine lv_iload_n hx hb dX5_isOrder_11 rfl (lv_at hl 1 rfl) ?_
    refine lv_iconst (v := 4) hx hb dX5_isOrder_12 (by decide) ?_
    refine lv_icmp_gt (tgt := 24) hx hb dX5_isOrder_13 (by decide) (fun c9 => absurd c9 (by decide)) (fun _ => ?_)
    rcases ix_cases (n := sVc σ) v (by omega) with h0 | ⟨j, hj, rfl⟩
    · refine lv_aload_n hx hb dX5_isOrder_16 rfl (lv_at hl 0 rfl) ?_
      refine lv_iload_n hx hb dX5_isOrder_17 rfl (lv_at hl 2 rfl) ?_
      refine cl_i (rest := []) (c_X5_isVault l D cA ad A hDD σ v ) ⟨hx, hb, hml, hown, hts⟩ hK hP hS kv_X5_67 ⟨Nat.le_of_ble_eq_true rfl, Nat.le_of_ble_eq_true rfl⟩ ⟨Nat.zero_le _, Nat.zero_le _⟩ 0 rfl rfl rfl hl.1 rfl (Nat.le_of_ble_eq_true rfl) (fun q h => h) dX5_isOrder_18 (fun r u H locs hw hP hS _ => ?_)
      rw [hw.2] at hP
      refine tp_i (z := (hz (sVc σ) v)) hw.1 ?_
      refine tp_i (z := 0) (hz_0 h0) ?_
      refine lv_if_ne (tgt := 26) hx hb dX5_isOrder_21 (by decide) (fun c9 => absurd (by decide) c9) (fun _ => ?_)
      refine lv_iconst (v := 0) hx hb dX5_isOrder_24 (by decide) ?_
      exact rt_z (v := 0) (u := σ) hx hb hr hlocks rfl hS hP (⟨(bz_0 (fun q => ix_none_s h0 (isO_v q (by decide)))).symm, rfl⟩) dX5_isOrder_25
    · have h0 := ix_nI hj (n := sVc σ) (by omega)
      refine lv_aload_n hx hb dX5_isOrder_16 rfl (lv_at hl 0 rfl) ?_
      refine lv_iload_n hx hb dX5_isOrder_17 rfl (lv_at hl 2 rfl) ?_
      refine cl_i (rest := []) (c_X5_isVault l D cA ad A hDD σ (nI j) ) ⟨hx, hb, hml, hown, hts⟩ hK hP hS kv_X5_67 ⟨Nat.le_of_ble_eq_true rfl, Nat.le_of_ble_eq_true rfl⟩ ⟨Nat.zero_le _, Nat.zero_le _⟩ 0 rfl rfl rfl hl.1 rfl (Nat.le_of_ble_eq_true rfl) (fun q h => h) dX5_isOrder_18 (fun r u H locs hw hP hS _ => ?_)
      rw [hw.2] at hP
      refine tp_i (z := (hz (sVc σ) (nI j))) hw.1 ?_
      refine tp_i (z := 1) (hz_1 h0) ?_
      refine lv_if_ne (tgt := 26) hx hb dX5_isOrder_21 (by decide) (fun _ => ?_) (fun c9 => absurd c9 (by decide))
      refine lv_iload_n hx hb dX5_isOrder_26 rfl (lv_at hl 1 rfl) ?_
      refine lv_iconst (v := 3) hx hb dX5_isOrder_27 (by decide) ?_
      refine lv_icmp_ne (tgt := 33) hx hb dX5_isOrder_28 (by decide) (fun _ => ?_) (fun c9 => absurd c9 (by decide))
      by_cases hn : amt n
      · skip
        refine lv_iload hx hb dX5_isOrder_33 (lv_at hl 4 rfl) ?_
        refine cl_s (rest := []) (c_X5_isAmount l D cA ad A hDD σ n ) ⟨hx, hb, hml, hown, hts⟩ hK hP hS kv_X5_63 ⟨Nat.le_of_ble_eq_true rfl, Nat.le_of_ble_eq_true rfl⟩ ⟨Nat.zero_le _, Nat.zero_le _⟩ rfl hl.1 rfl (Nat.le_of_ble_eq_true rfl) (fun q h => h) dX5_isOrder_35 (fun r u H locs hw hP hS => ?_)
        rw [hw.2] at hP
        refine tp_i (z := (bz (amt n))) hw.1 ?_
        refine tp_i (z := 1) (bz_1 hn) ?_
        refine lv_if_eq (tgt := 58) hx hb dX5_isOrder_38 (by decide) (fun c9 => absurd c9 (by decide)) (fun _ => ?_)
        refine lv_iload_n hx hb dX5_isOrder_41 rfl (lv_at hl 1 rfl) ?_
        refine lv_iconst (v := 2) hx hb dX5_isOrder_42 (by decide) ?_
        refine lv_icmp_ne (tgt := 54) hx hb dX5_isOrder_43 (by decide) (fun _ => ?_) (fun c9 => absurd c9 (by decide))
        refine lv_iconst (v := 1) hx hb dX5_isOrder_54 (by decide) ?_
        refine lv_goto (tgt := 59) hx hb dX5_isOrder_55 (by decide) ?_
        exact rt_z (v := 1) (u := σ) hx hb hr hlocks rfl hS hP (⟨(bz_1 (Or.inl ⟨Or.inr rfl, ix_some_s h0, hn⟩)).symm, rfl⟩) dX5_isOrder_59
      · skip
        refine lv_iload hx hb dX5_isOrder_33 (lv_at hl 4 rfl) ?_
        refine cl_s (rest := []) (c_X5_isAmount l D cA ad A hDD σ n ) ⟨hx, hb, hml, hown, hts⟩ hK hP hS kv_X5_63 ⟨Nat.le_of_ble_eq_true rfl, Nat.le_of_ble_eq_true rfl⟩ ⟨Nat.zero_le _, Nat.zero_le _⟩ rfl hl.1 rfl (Nat.le_of_ble_eq_true rfl) (fun q h => h) dX5_isOrder_35 (fun r u H locs hw hP hS => ?_)
        rw [hw.2] at hP
        refine tp_i (z := (bz (amt n))) hw.1 ?_
        refine tp_i (z := 0) (bz_0 hn) ?_
        refine lv_if_eq (tgt := 58) hx hb dX5_isOrder_38 (by decide) (fun _ => ?_) (fun c9 => absurd (by decide) c9)
        refine lv_iconst (v := 0) hx hb dX5_isOrder_58 (by decide) ?_
        exact rt_z (v := 0) (u := σ) hx hb hr hlocks rfl hS hP (⟨(bz_0 (fun q => hn (isO_n q (by decide) (by decide)))).symm, rfl⟩) dX5_isOrder_59
  · skip
    refine lv_iload_n hx hb dX5_isOrder_0 rfl (lv_at hl 1 rfl) ?_
    refine lv_iconst (v := 4) hx hb dX5_isOrder_1 (by decide) ?_
    refine lv_icmp_ne (tgt := 7) hx hb dX5_isOrder_2 (by decide) (fun _ => ?_) (fun c9 => absurd c9 (by decide))
    refine lv_iload_n hx hb dX5_isOrder_7 rfl (lv_at hl 1 rfl) ?_
    refine lv_if_lt (tgt := 24) hx hb dX5_isOrder_8 (by decide) (fun c9 => absurd c9 (by decide)) (fun _ => ?_)
    refine lv_iload_n hx hb dX5_isOrder_11 rfl (lv_at hl 1 rfl) ?_
    refine lv_iconst (v := 4) hx hb dX5_isOrder_12 (by decide) ?_
    refine lv_icmp_gt (tgt := 24) hx hb dX5_isOrder_13 (by decide) (fun c9 => absurd c9 (by decide)) (fun _ => ?_)
    rcases ix_cases (n := sVc σ) v (by omega) with h0 | ⟨j, hj, rfl⟩
    · refine lv_aload_n hx hb dX5_isOrder_16 rfl (lv_at hl 0 rfl) ?_
      refine lv_iload_n hx hb dX5_isOrder_17 rfl (lv_at hl 2 rfl) ?_
      refine cl_i (rest := []) (c_X5_isVault l D cA ad A hDD σ v ) ⟨hx, hb, hml, hown, hts⟩ hK hP hS kv_X5_67 ⟨Nat.le_of_ble_eq_true rfl, Nat.le_of_ble_eq_true rfl⟩ ⟨Nat.zero_le _, Nat.zero_le _⟩ 0 rfl rfl rfl hl.1 rfl (Nat.le_of_ble_eq_true rfl) (fun q h => h) dX5_isOrder_18 (fun r u H locs hw hP hS _ => ?_)
      rw [hw.2] at hP
      refine tp_i (z := (hz (sVc σ) v)) hw.1 ?_
      refine tp_i (z := 0) (hz_0 h0) ?_
      refine lv_if_ne (tgt := 26) hx hb dX5_isOrder_21 (by decide) (fun c9 => absurd (by decide) c9) (fun _ => ?_)
      refine lv_iconst (v := 0) hx hb dX5_isOrder_24 (by decide) ?_
      exact rt_z (v := 0) (u := σ) hx hb hr hlocks rfl hS hP (⟨(bz_0 (fun q => ix_none_s h0 (isO_v q (by decide)))).symm, rfl⟩) dX5_isOrder_25
    · have h0 := ix_nI hj (n := sVc σ) (by omega)
      refine lv_aload_n hx hb dX5_isOrder_16 rfl (lv_at hl 0 rfl) ?_
      refine lv_iload_n hx hb dX5_isOrder_17 rfl (lv_at hl 2 rfl) ?_
      refine cl_i (rest := []) (c_X5_isVault l D cA ad A hDD σ (nI j) ) ⟨hx, hb, hml, hown, hts⟩ hK hP hS kv_X5_67 ⟨Nat.le_of_ble_eq_true rfl, Nat.le_of_ble_eq_true rfl⟩ ⟨Nat.zero_le _, Nat.zero_le _⟩ 0 rfl rfl rfl hl.1 rfl (Nat.le_of_ble_eq_true rfl) (fun q h => h) dX5_isOrder_18 (fun r u H locs hw hP hS _ => ?_)
      rw [hw.2] at hP
      refine tp_i (z := (hz (sVc σ) (nI j))) hw.1 ?_
      refine tp_i (z := 1) (hz_1 h0) ?_
      refine lv_if_ne (tgt := 26) hx hb dX5_isOrder_21 (by decide) (fun _ => ?_) (fun c9 => absurd c9 (by decide))
      refine lv_iload_n hx hb dX5_isOrder_26 rfl (lv_at hl 1 rfl) ?_
      refine lv_iconst (v := 3) hx hb dX5_isOrder_27 (by decide) ?_
      refine lv_icmp_ne (tgt := 33) hx hb dX5_isOrder_28 (by decide) (fun _ => ?_) (fun c9 => absurd c9 (by decide))
      by_cases hn : amt n
      · skip
        refine lv_iload hx hb dX5_isOrder_33 (lv_at hl 4 rfl) ?_
        refine cl_s (rest := []) (c_X5_isAmount l D cA ad A hDD σ n ) ⟨hx, hb, hml, hown, hts⟩ hK hP hS kv_X5_63 ⟨Nat.le_of_ble_eq_true rfl, Nat.le_of_ble_eq_true rfl⟩ ⟨Nat.zero_le _, Nat.zero_le _⟩ rfl hl.1 rfl (Nat.le_of_ble_eq_true rfl) (fun q h => h) dX5_isOrder_35 (fun r u H locs hw hP hS => ?_)
        rw [hw.2] at hP
        refine tp_i (z := (bz (amt n))) hw.1 ?_
        refine tp_i (z := 1) (bz_1 hn) ?_
        refine lv_if_eq (tgt := 58) hx hb dX5_isOrder_38 (by decide) (fun c9 => absurd c9 (by decide)) (fun _ => ?_)
        refine lv_iload_n hx hb dX5_isOrder_41 rfl (lv_at hl 1 rfl) ?_
        refine lv_iconst (v := 2) hx hb dX5_isOrder_42 (by decide) ?_
        refine lv_icmp_ne (tgt := 54) hx hb dX5_isOrder_43 (by decide) (fun c9 => absurd (by decide) c9) (fun _ => ?_)
        rcases ix_cases (n := sVc σ) w (by omega) with hq | ⟨i, hi, rfl⟩
        · refine lv_aload_n hx hb dX5_isOrder_46 rfl (lv_at hl 0 rfl) ?_
          refine lv_iload_n hx hb dX5_isOrder_47 rfl (lv_at hl 3 rfl) ?_
          refine cl_i (rest := []) (c_X5_isVault l D cA ad A hDD σ w ) ⟨hx, hb, hml, hown, hts⟩ hK hP hS kv_X5_67 ⟨Nat.le_of_ble_eq_true rfl, Nat.le_of_ble_eq_true rfl⟩ ⟨Nat.zero_le _, Nat.zero_le _⟩ 0 rfl rfl rfl hl.1 rfl (Nat.le_of_ble_eq_true rfl) (fun q h => h) dX5_isOrder_48 (fun r u H locs hw hP hS _ => ?_)
          rw [hw.2] at hP
          refine tp_i (z := (hz (sVc σ) w)) hw.1 ?_
          refine tp_i (z := 0) (hz_0 hq) ?_
          refine lv_if_eq (tgt := 58) hx hb dX5_isOrder_51 (by decide) (fun _ => ?_) (fun c9 => absurd (by decide) c9)
          refine lv_iconst (v := 0) hx hb dX5_isOrder_58 (by decide) ?_
          exact rt_z (v := 0) (u := σ) hx hb hr hlocks rfl hS hP (⟨(bz_0 (fun q => ix_none_s hq (isO_w q))).symm, rfl⟩) dX5_isOrder_59
        · have hq := ix_nI hi (n := sVc σ) (by omega)
          refine lv_aload_n hx hb dX5_isOrder_46 rfl (lv_at hl 0 rfl) ?_
          refine lv_iload_n hx hb dX5_isOrder_47 rfl (lv_at hl 3 rfl) ?_
          refine cl_i (rest := []) (c_X5_isVault l D cA ad A hDD σ (nI i) ) ⟨hx, hb, hml, hown, hts⟩ hK hP hS kv_X5_67 ⟨Nat.le_of_ble_eq_true rfl, Nat.le_of_ble_eq_true rfl⟩ ⟨Nat.zero_le _, Nat.zero_le _⟩ 0 rfl rfl rfl hl.1 rfl (Nat.le_of_ble_eq_true rfl) (fun q h => h) dX5_isOrder_48 (fun r u H locs hw hP hS _ => ?_)
          rw [hw.2] at hP
          refine tp_i (z := (hz (sVc σ) (nI i))) hw.1 ?_
          refine tp_i (z := 1) (hz_1 hq) ?_
          refine lv_if_eq (tgt := 58) hx hb dX5_isOrder_51 (by decide) (fun c9 => absurd c9 (by decide)) (fun _ => ?_)
          refine lv_iconst (v := 1) hx hb dX5_isOrder_54 (by decide) ?_
          refine lv_goto (tgt := 59) hx hb dX5_isOrder_55 (by decide) ?_
          exact rt_z (v := 1) (u := σ) hx hb hr hlocks rfl hS hP (⟨(bz_1 (Or.inr (Or.inl ⟨rfl, ix_some_s h0, ix_some_s hq, hn⟩))).symm, rfl⟩) dX5_isOrder_59
      · skip
        refine lv_iload hx hb dX5_isOrder_33 (lv_at hl 4 rfl) ?_
        refine cl_s (rest := []) (c_X5_isAmount l D cA ad A hDD σ n ) ⟨hx, hb, hml, hown, hts⟩ hK hP hS kv_X5_63 ⟨Nat.le_of_ble_eq_true rfl, Nat.le_of_ble_eq_true rfl⟩ ⟨Nat.zero_le _, Nat.zero_le _⟩ rfl hl.1 rfl (Nat.le_of_ble_eq_true rfl) (fun q h => h) dX5_isOrder_35 (fun r u H locs hw hP hS => ?_)
        rw [hw.2] at hP
        refine tp_i (z := (bz (amt n))) hw.1 ?_
        refine tp_i (z := 0) (bz_0 hn) ?_
        refine lv_if_eq (tgt := 58) hx hb dX5_isOrder_38 (by decide) (fun _ => ?_) (fun c9 => absurd (by decide) c9)
        refine lv_iconst (v := 0) hx hb dX5_isOrder_58 (by decide) ?_
        exact rt_z (v := 0) (u := σ) hx hb hr hlocks rfl hS hP (⟨(bz_0 (fun q => hn (isO_n q (by decide) (by decide)))).symm, rfl⟩) dX5_isOrder_59
  · skip
    refine lv_iload_n hx hb dX5_isOrder_0 rfl (lv_at hl 1 rfl) ?_
    refine lv_iconst (v := 4) hx hb dX5_isOrder_1 (by decide) ?_
    refine lv_icmp_ne (tgt := 7) hx hb dX5_isOrder_2 (by decide) (fun _ => ?_) (fun c9 => absurd c9 (by decide))
    refine lv_iload_n hx hb dX5_isOrder_7 rfl (lv_at hl 1 rfl) ?_
    refine lv_if_lt (tgt := 24) hx hb dX5_isOrder_8 (by decide) (fun c9 => absurd c9 (by decide)) (fun _ => ?_)
    refine lv_iload_n hx hb dX5_isOrder_11 rfl (lv_at hl 1 rfl) ?_
    refine lv_iconst (v := 4) hx hb dX5_isOrder_12 (by decide) ?_
    refine lv_icmp_gt (tgt := 24) hx hb dX5_isOrder_13 (by decide) (fun c9 => absurd c9 (by decide)) (fun _ => ?_)
    rcases ix_cases (n := sVc σ) v (by omega) with h0 | ⟨j, hj, rfl⟩
    · refine lv_aload_n hx hb dX5_isOrder_16 rfl (lv_at hl 0 rfl) ?_
      refine lv_iload_n hx hb dX5_isOrder_17 rfl (lv_at hl 2 rfl) ?_
      refine cl_i (rest := []) (c_X5_isVault l D cA ad A hDD σ v ) ⟨hx, hb, hml, hown, hts⟩ hK hP hS kv_X5_67 ⟨Nat.le_of_ble_eq_true rfl, Nat.le_of_ble_eq_true rfl⟩ ⟨Nat.zero_le _, Nat.zero_le _⟩ 0 rfl rfl rfl hl.1 rfl (Nat.le_of_ble_eq_true rfl) (fun q h => h) dX5_isOrder_18 (fun r u H locs hw hP hS _ => ?_)
      rw [hw.2] at hP
      refine tp_i (z := (hz (sVc σ) v)) hw.1 ?_
      refine tp_i (z := 0) (hz_0 h0) ?_
      refine lv_if_ne (tgt := 26) hx hb dX5_isOrder_21 (by decide) (fun c9 => absurd (by decide) c9) (fun _ => ?_)
      refine lv_iconst (v := 0) hx hb dX5_isOrder_24 (by decide) ?_
      exact rt_z (v := 0) (u := σ) hx hb hr hlocks rfl hS hP (⟨(bz_0 (fun q => ix_none_s h0 (isO_v q (by decide)))).symm, rfl⟩) dX5_isOrder_25
    · have h0 := ix_nI hj (n := sVc σ) (by omega)
      refine lv_aload_n hx hb dX5_isOrder_16 rfl (lv_at hl 0 rfl) ?_
      refine lv_iload_n hx hb dX5_isOrder_17 rfl (lv_at hl 2 rfl) ?_
      refine cl_i (rest := []) (c_X5_isVault l D cA ad A hDD σ (nI j) ) ⟨hx, hb, hml, hown, hts⟩ hK hP hS kv_X5_67 ⟨Nat.le_of_ble_eq_true rfl, Nat.le_of_ble_eq_true rfl⟩ ⟨Nat.zero_le _, Nat.zero_le _⟩ 0 rfl rfl rfl hl.1 rfl (Nat.le_of_ble_eq_true rfl) (fun q h => h) dX5_isOrder_18 (fun r u H locs hw hP hS _ => ?_)
      rw [hw.2] at hP
      refine tp_i (z := (hz (sVc σ) (nI j))) hw.1 ?_
      refine tp_i (z := 1) (hz_1 h0) ?_
      refine lv_if_ne (tgt := 26) hx hb dX5_isOrder_21 (by decide) (fun _ => ?_) (fun c9 => absurd c9 (by decide))
      refine lv_iload_n hx hb dX5_isOrder_26 rfl (lv_at hl 1 rfl) ?_
      refine lv_iconst (v := 3) hx hb dX5_isOrder_27 (by decide) ?_
      refine lv_icmp_ne (tgt := 33) hx hb dX5_isOrder_28 (by decide) (fun c9 => absurd (by decide) c9) (fun _ => ?_)
      refine lv_iconst (v := 1) hx hb dX5_isOrder_31 (by decide) ?_
      exact rt_z (v := 1) (u := σ) hx hb hr hlocks rfl hS hP (⟨(bz_1 (Or.inr (Or.inr (Or.inl ⟨rfl, ix_some_s h0⟩)))).symm, rfl⟩) dX5_isOrder_32
  · skip
    refine lv_iload_n hx hb dX5_isOrder_0 rfl (lv_at hl 1 rfl) ?_
    refine lv_iconst (v := 4) hx hb dX5_isOrder_1 (by decide) ?_
    refine lv_icmp_ne (tgt := 7) hx hb dX5_isOrder_2 (by decide) (fun c9 => absurd (by decide) c9) (fun _ => ?_)
    refine lv_iconst (v := 1) hx hb dX5_isOrder_5 (by decide) ?_
    exact rt_z (v := 1) (u := σ) hx hb hr hlocks rfl hS hP (⟨(bz_1 (Or.inr (Or.inr (Or.inr rfl)))).symm, rfl⟩) dX5_isOrder_6
  · skip
    refine lv_iload_n hx hb dX5_isOrder_0 rfl (lv_at hl 1 rfl) ?_
    refine lv_iconst (v := 4) hx hb dX5_isOrder_1 (by decide) ?_
    refine lv_icmp_ne (tgt := 7) hx hb dX5_isOrder_2 (by decide) (fun _ => ?_) (fun c9 => absurd c9 (o_ne ho (by decide)))
    refine lv_iload_n hx hb dX5_isOrder_7 rfl (lv_at hl 1 rfl) ?_
    refine lv_if_lt (tgt := 24) hx hb dX5_isOrder_8 (by decide) (fun c8 => ?_) (fun c8 => ?_)
    · refine lv_iconst (v := 0) hx hb dX5_isOrder_24 (by decide) ?_
      exact rt_z (v := 0) (u := σ) hx hb hr hlocks rfl hS hP (⟨(bz_0 (isO_out ho)).symm, rfl⟩) dX5_isOrder_25
    · refine lv_iload_n hx hb dX5_isOrder_11 rfl (lv_at hl 1 rfl) ?_
      refine lv_iconst (v := 4) hx hb dX5_isOrder_12 (by decide) ?_
      refine lv_icmp_gt (tgt := 24) hx hb dX5_isOrder_13 (by decide) (fun _ => ?_) (fun c9 => absurd (o_out ho c8) c9)
      refine lv_iconst (v := 0) hx hb dX5_isOrder_24 (by decide) ?_
      exact rt_z (v := 0) (u := σ) hx hb hr hlocks rfl hS hP (⟨(bz_0 (isO_out ho)).symm, rfl⟩) dX5_isOrder_25
set_option maxHeartbeats 4000000 in
set_option maxRecDepth 100000 in
theorem c_X5_order (l : Launch) (D : va_G) (cA : ClassId) (ad : Nat → Nat) (A : Nat → Prop) (hDD : ∀ u, va_D A (rW ad cA u)) (σ : CS) (o v w n : Int32) (hI : Inv σ) (hg : sGr σ = 0) (hb9 : sBc σ ≤ 1000000000) : Ct l D cA (rW ad cA) A yX5_order cX5_order 5 (some .int) 2 45 [.ref (ad 0), .int o, .int v, .int w, .int n] σ (fun r u => r = (f_order σ o v w n).1 ∧ u = (f_order σ o v w n).2) := by
  refine Ct.of (by decide) (Nat.le_of_ble_eq_true rfl) ?_
  intro p e s m below meth c ls S0 hr hlocks hK hP hS hl
  obtain ⟨hx, hb, hml, hown, hts⟩ := id S0
  have hl : lv_has ls 5 [(0, .ref (ad 0)), (1, .int o), (2, .int v), (3, .int w), (4, .int n)] := hl
  have hkc := hI.kc
  have hvc := hI.vc
  have hgc := hI.gr
  have htc := hI.tc
  by_cases hq : isO σ o v w n
  · skip
    refine lv_aload_n hx hb dX5_order_0 rfl (lv_at hl 0 rfl) ?_
    refine lv_iload_n hx hb dX5_order_1 rfl (lv_at hl 1 rfl) ?_
    refine lv_iload_n hx hb dX5_order_2 rfl (lv_at hl 2 rfl) ?_
    refine lv_iload_n hx hb dX5_order_3 rfl (lv_at hl 3 rfl) ?_
    refine lv_iload hx hb dX5_order_4 (lv_at hl 4 rfl) ?_
    refine cl_i (rest := []) (c_X5_isOrder l D cA ad A hDD σ o v w n hI) ⟨hx, hb, hml, hown, hts⟩ hK hP hS kv_X5_118 ⟨Nat.le_of_ble_eq_true rfl, Nat.le_of_ble_eq_true rfl⟩ ⟨Nat.zero_le _, Nat.zero_le _⟩ 0 rfl rfl rfl hl.1 rfl (Nat.le_of_ble_eq_true rfl) (fun q h => h) dX5_order_6 (fun r u H locs hw hP hS _ => ?_)
    rw [hw.2] at hP
    refine tp_i (z := (bz (isO σ o v w n))) hw.1 ?_
    refine tp_i (z := 1) (bz_1 hq) ?_
    refine lv_if_ne (tgt := 15) hx hb dX5_order_9 (by decide) (fun _ => ?_) (fun c9 => absurd c9 (by decide))
    refine lv_aload_n hx hb dX5_order_15 rfl (lv_at hl 0 rfl) ?_
    refine va_get (D := D) (ci := 5) (v := .int (nI (sTc σ))) (C := RX5) (T := TX5) (N := 20) hx hb hts in_X5 hown hK hP 0 rfl rfl 19 (by decide) (hts _ kf_X5_122) (fun _ h9 => h9) rfl dX5_order_16 ?_
    refine lv_bipush (v := 32) hx hb dX5_order_19 (by decide) ?_
    refine lv_icmp_ne (tgt := 27) hx hb dX5_order_21 (by decide) (fun c21 => ?_) (fun c21 => ?_)
    · have h4 : sTc σ < 32 := by rcases Nat.lt_or_ge (sTc σ) 32 with q | q; exact q; exact absurd (by rw [Nat.le_antisymm htc q]; rfl) c21
      refine lv_aload_n hx hb dX5_order_27 rfl (lv_at hl 0 rfl) ?_
      refine va_get (D := D) (ci := 5) (v := .ref (ad 11)) (C := RX5) (T := TX5) (N := 20) hx hb hts in_X5 hown hK hP 0 rfl rfl 15 (by decide) (hts _ kf_X5_40) (fun _ h9 => h9) rfl dX5_order_28 ?_
      refine lv_aload_n hx hb dX5_order_31 rfl (lv_at hl 0 rfl) ?_
      refine va_get (D := D) (ci := 5) (v := .int (nI (sTc σ))) (C := RX5) (T := TX5) (N := 20) hx hb hts in_X5 hown hK hP 0 rfl rfl 19 (by decide) (hts _ kf_X5_122) (fun _ h9 => h9) rfl dX5_order_32 ?_
      refine lv_iload_n hx hb dX5_order_35 rfl (lv_at hl 1 rfl) ?_
      refine ar_p hx hb hK hP (hDD _) hS 11 rfl (x := o) (by omega) (by decide) dX5_order_36 (fun H locs hP hS => ?_)
      have hP : va_P D vwCl (rW ad cA (σ.1, σ.2.1, σ.2.2.1, ((upd (sOp σ) (sTc σ) o), (sFi σ), (sSe σ), (sAm σ), (sTc σ)), σ.2.2.2.2)) H := hP
      refine lv_aload_n hx hb dX5_order_37 rfl (lv_at hl 0 rfl) ?_
      refine va_get (D := D) (ci := 5) (v := .ref (ad 12)) (C := RX5) (T := TX5) (N := 20) hx hb hts in_X5 hown hK hP 0 rfl rfl 16 (by decide) (hts _ kf_X5_43) (fun _ h9 => h9) rfl dX5_order_38 ?_
      refine lv_aload_n hx hb dX5_order_41 rfl (lv_at hl 0 rfl) ?_
      refine va_get (D := D) (ci := 5) (v := .int (nI (sTc σ))) (C := RX5) (T := TX5) (N := 20) hx hb hts in_X5 hown hK hP 0 rfl rfl 19 (by decide) (hts _ kf_X5_122) (fun _ h9 => h9) rfl dX5_order_42 ?_
      refine lv_iload_n hx hb dX5_order_45 rfl (lv_at hl 2 rfl) ?_
      refine ar_p hx hb hK hP (hDD _) hS 12 rfl (x := v) (by omega) (by decide) dX5_order_46 (fun H locs hP hS => ?_)
      have hP : va_P D vwCl (rW ad cA (σ.1, σ.2.1, σ.2.2.1, ((upd (sOp σ) (sTc σ) o), (upd (sFi σ) (sTc σ) v), (sSe σ), (sAm σ), (sTc σ)), σ.2.2.2.2)) H := hP
      refine lv_aload_n hx hb dX5_order_47 rfl (lv_at hl 0 rfl) ?_
      refine va_get (D := D) (ci := 5) (v := .ref (ad 13)) (C := RX5) (T := TX5) (N := 20) hx hb hts in_X5 hown hK hP 0 rfl rfl 17 (by decide) (hts _ kf_X5_46) (fun _ h9 => h9) rfl dX5_order_48 ?_
      refine lv_aload_n hx hb dX5_order_51 rfl (lv_at hl 0 rfl) ?_
      refine va_get (D := D) (ci := 5) (v := .int (nI (sTc σ))) (C := RX5) (T := TX5) (N := 20) hx hb hts in_X5 hown hK hP 0 rfl rfl 19 (by decide) (hts _ kf_X5_122) (fun _ h9 => h9) rfl dX5_order_52 ?_
      refine lv_iload_n hx hb dX5_order_55 rfl (lv_at hl 3 rfl) ?_
      refine ar_p hx hb hK hP (hDD _) hS 13 rfl (x := w) (by omega) (by decide) dX5_order_56 (fun H locs hP hS => ?_)
      have hP : va_P D vwCl (rW ad cA (σ.1, σ.2.1, σ.2.2.1, ((upd (sOp σ) (sTc σ) o), (upd (sFi σ) (sTc σ) v), (upd (sSe σ) (sTc σ) w), (sAm σ), (sTc σ)), σ.2.2.2.2)) H := hP
      refine lv_aload_n hx hb dX5_order_57 rfl (lv_at hl 0 rfl) ?_
      refine va_get (D := D) (ci := 5) (v := .ref (ad 14)) (C := RX5) (T := TX5) (N := 20) hx hb hts in_X5 hown hK hP 0 rfl rfl 18 (by decide) (hts _ kf_X5_49) (fun _ h9 => h9) rfl dX5_order_58 ?_
      refine lv_aload_n hx hb dX5_order_61 rfl (lv_at hl 0 rfl) ?_
      refine va_get (D := D) (ci := 5) (v := .int (nI (sTc σ))) (C := RX5) (T := TX5) (N := 20) hx hb hts in_X5 hown hK hP 0 rfl rfl 19 (by decide) (hts _ kf_X5_122) (fun _ h9 => h9) rfl dX5_order_62 ?_
      refine lv_iload hx hb dX5_order_65 (lv_at hl 4 rfl) ?_
      refine ar_p hx hb hK hP (hDD _) hS 14 rfl (x := n) (by omega) (by decide) dX5_order_67 (fun H locs hP hS => ?_)
      have hP : va_P D vwCl (rW ad cA (σ.1, σ.2.1, σ.2.2.1, ((upd (sOp σ) (sTc σ) o), (upd (sFi σ) (sTc σ) v), (upd (sSe σ) (sTc σ) w), (upd (sAm σ) (sTc σ) n), (sTc σ)), σ.2.2.2.2)) H := hP
      refine lv_aload_n hx hb dX5_order_68 rfl (lv_at hl 0 rfl) ?_
      refine lv_dup hx hb dX5_order_69 rfl ?_
      refine va_get (D := D) (ci := 5) (v := .int (nI (sTc σ))) (C := RX5) (T := TX5) (N := 20) hx hb hts in_X5 hown hK hP 0 rfl rfl 19 (by decide) (hts _ kf_X5_122) (fun _ h9 => h9) rfl dX5_order_70 ?_
      refine lv_iconst (v := 1) hx hb dX5_order_73 (by decide) ?_
      refine lv_iadd hx hb dX5_order_74 ?_
      refine tp_i (z := (nI ((sTc σ) + 1))) (nI_1 _) ?_
      refine va_put (D := D) (ci := 5) (v := .int (nI ((sTc σ) + 1))) (ty := .int) (C := RX5) (T := TX5) (N := 20) hx hb hts in_X5 tyX5 tyX5_ok nmX5 hown hK hP (hDD _) hS 0 rfl rfl 19 (by decide) (hts _ kf_X5_122) (fun _ h9 => h9) rfl (by decide +kernel) rfl rfl (Nat.le_of_ble_eq_true rfl) dX5_order_75 (fun H locs hP _ hS => ?_)
      have hP : va_P D vwCl (rW ad cA (σ.1, σ.2.1, σ.2.2.1, ((upd (sOp σ) (sTc σ) o), (upd (sFi σ) (sTc σ) v), (upd (sSe σ) (sTc σ) w), (upd (sAm σ) (sTc σ) n), ((sTc σ) + 1)), σ.2.2.2.2)) H := hP
      refine lv_aload_n hx hb dX5_order_78 rfl (lv_at hl 0 rfl) ?_
      refine va_get (D := D) (ci := 5) (v := .int (nI ((sTc σ) + 1))) (C := RX5) (T := TX5) (N := 20) hx hb hts in_X5 hown hK hP 0 rfl rfl 19 (by decide) (hts _ kf_X5_122) (fun _ h9 => h9) rfl dX5_order_79 ?_
      exact rt_i (v := (nI ((sTc σ) + 1))) (u := (σ.1, σ.2.1, σ.2.2.1, ((upd (sOp σ) (sTc σ) o), (upd (sFi σ) (sTc σ) v), (upd (sSe σ) (sTc σ) w), (upd (sAm σ) (sTc σ) n), ((sTc σ) + 1)), σ.2.2.2.2)) hx hb hr hlocks hS hP ((by rw [order_a hq]; exact pr2 (if_neg (fun q => c21 (by rw [q]; rfl))))) dX5_order_82
    · refine lv_bipush (v := (-3)) hx hb dX5_order_24 (by decide) ?_
      exact rt_i (v := (-3)) (u := σ) hx hb hr hlocks hS hP ((by rw [order_a hq]; exact pr2 (if_pos (nI_inj (b := 32) (by omega) (by decide) c21)))) dX5_order_26
  · skip
    refine lv_aload_n hx hb dX5_order_0 rfl (lv_at hl 0 rfl) ?_
    refine lv_iload_n hx hb dX5_order_1 rfl (lv_at hl 1 rfl) ?_
    refine lv_iload_n hx hb dX5_order_2 rfl (lv_at hl 2 rfl) ?_
    refine lv_iload_n hx hb dX5_order_3 rfl (lv_at hl 3 rfl) ?_
    refine lv_iload hx hb dX5_order_4 (lv_at hl 4 rfl) ?_
    refine cl_i (rest := []) (c_X5_isOrder l D cA ad A hDD σ o v w n hI) ⟨hx, hb, hml, hown, hts⟩ hK hP hS kv_X5_118 ⟨Nat.le_of_ble_eq_true rfl, Nat.le_of_ble_eq_true rfl⟩ ⟨Nat.zero_le _, Nat.zero_le _⟩ 0 rfl rfl rfl hl.1 rfl (Nat.le_of_ble_eq_true rfl) (fun q h => h) dX5_order_6 (fun r u H locs hw hP hS _ => ?_)
    rw [hw.2] at hP
    refine tp_i (z := (bz (isO σ o v w n))) hw.1 ?_
    refine tp_i (z := 0) (bz_0 hq) ?_
    refine lv_if_ne (tgt := 15) hx hb dX5_order_9 (by decide) (fun c9 => absurd (by decide) c9) (fun _ => ?_)
    refine lv_bipush (v := (-2)) hx hb dX5_order_12 (by decide) ?_
    exact rt_i (v := (-2)) (u := σ) hx hb hr hlocks hS hP (pr2 (order_b hq)) dX5_order_14
end
section
-- rows and loops, pure
theorem row_ok {σ : CS} {a : Int32} {i k : Nat} (h0 : ix (sVc σ) a = some i) (h1 : 1 ≤ k) (h2 : k ≤ 12) (h : i + k ≤ sVc σ) : row σ a (nI k) = some (i, k) := by
  have e := row_s (m := nI k) h0 ⟨nI_le (a := 1) h1 (by omega), nI_le (b := 12) h2 (by decide), by rw [nI_clamp (by omega)]; exact h⟩
  rw [nI_clamp (by omega)] at e
  exact e
theorem row_no {σ : CS} {a : Int32} {i k : Nat} (h0 : ix (sVc σ) a = some i) (h2 : k ≤ 12) (h : ¬ i + k ≤ sVc σ) : row σ a (nI k) = none :=
  row_b h0 (fun q => h (by have := q.2.2; rw [nI_clamp (by omega)] at this; exact this))
theorem row_f {σ : CS} {a m : Int32} {i k : Nat} (hv : sVc σ ≤ 12) (h : row σ a m = some (i, k)) : a = nI i ∧ m = nI k ∧ 1 ≤ k ∧ k ≤ 12 ∧ i + k ≤ sVc σ := by
  rcases ix_cases (n := sVc σ) a (by omega) with h0 | ⟨j, hj, rfl⟩
  · rw [row_n h0] at h; cases h
  · have h0 := ix_nI hj (n := sVc σ) (by omega)
    by_cases hm : 1 ≤ m ∧ m ≤ 12
    · obtain ⟨q, h1, h2, rfl⟩ := rng (lo := 1) (hi := 12) (by decide) (by decide) hm
      by_cases hs : j + q ≤ sVc σ
      · rw [row_ok h0 h1 h2 hs] at h; cases h; exact ⟨rfl, rfl, h1, h2, hs⟩
      · rw [row_no h0 h2 hs] at h; cases h
    · rw [row_b h0 (fun q => hm ⟨q.1, q.2.1⟩)] at h; cases h
theorem ix_none_ge {n : Nat} {x : Int32} (h : ix n x = none) (h1 : ¬ x < 0) : nI n ≤ x := by
  rcases Int32.le_total (nI n) x with q | q
  · exact q
  · by_cases e : nI n ≤ x
    · exact e
    · rw [ix_in h1 e] at h; cases h
theorem isS_0 {α : Type} {o : Option α} (h : o = none) : ¬ o.isSome = true := by rw [h]; exact Bool.false_ne_true
theorem isS_1 {α : Type} {o : Option α} {a : α} (h : o = some a) : o.isSome = true := by rw [h]; rfl
theorem rounds_b {σ : CS} {a m n : Int32} (h : row σ a m = none) : f_rounds σ a m n = (-2, σ) := by unfold f_rounds; rw [h]
theorem rounds_b2 {σ : CS} {a m n : Int32} {q : Nat × Nat} (h : row σ a m = some q) (hn : ¬ (1 ≤ n ∧ n ≤ 12)) : f_rounds σ a m n = (-2, σ) := by unfold f_rounds; rw [h]; exact if_neg hn
theorem rounds_g {σ : CS} {a m : Int32} {i k n : Nat} (h : row σ a m = some (i, k)) (h1 : 1 ≤ n) (h2 : n ≤ 12) : f_rounds σ a m (nI n) = (nI (rl n k i 0 σ).1, (rl n k i 0 σ).2) := by
  unfold f_rounds; rw [h]; dsimp only
  rw [if_pos ⟨nI_le (a := 1) h1 (by omega), nI_le (b := 12) h2 (by decide)⟩, nI_clamp (by omega)]
theorem sweep_b {σ : CS} {a m n : Int32} (h : row σ a m = none) : f_sweep σ a m n = (-2, σ) := by unfold f_sweep; rw [h]
theorem sweep_b2 {σ : CS} {a m n : Int32} {q : Nat × Nat} (h : row σ a m = some q) (hn : ¬ (1 ≤ n ∧ n ≤ 1000000)) : f_sweep σ a m n = (-2, σ) := by unfold f_sweep; rw [h]; exact if_neg hn
theorem sweep_g {σ : CS} {a m n : Int32} {i k : Nat} (h : row σ a m = some (i, k)) (hn : 1 ≤ n ∧ n ≤ 1000000) : f_sweep σ a m n = sl n k i n σ := by unfold f_sweep; rw [h]; exact if_pos hn
theorem th_sm {σ : CS} {x h : Int32} : sSm (th σ x h).2 = sSm σ := by show (th σ x h).2.2.1.2.1 = _; rw [th_v]
theorem th_nx {σ : CS} {x h : Int32} : sNx (th σ x h).2 = sNx σ := by show (th σ x h).2.2.1.2.2.1 = _; rw [th_v]
section RL
variable {n f v less : Nat} {σ u : CS}
theorem rl_1 (hu : u = (th σ (sLf σ v) 0).2) (q : (th σ (sLf σ v) 0).1 = 1) : rl n (f + 1) v less σ = rl n f (v + 1) less u := by
  rw [hu]; show (if _ then _ else _) = _; rw [if_pos q]
theorem rl_2 (hu : u = (th σ (sLf σ v) 0).2) (q : (th σ (sLf σ v) 0).1 = 0) (hs : sSm u v = 0) : rl n (f + 1) v less σ = rl n f (v + 1) less (da 500 u) := by
  rw [hu, th_sm] at hs
  rw [hu]; show (if _ then _ else _) = _; rw [if_neg (by rw [q]; decide), if_pos hs]
theorem rl_3 (hu : u = (th σ (sLf σ v) 0).2) (q : (th σ (sLf σ v) 0).1 = 0) (hs : ¬ sSm u v = 0) (hl : less + 1 = n) : rl n (f + 1) v less σ = (less + 1, da 400 (ssm u (upd (sSm u) v (sSm u v - 1)))) := by
  have e : sSm u = sSm σ := by rw [hu, th_sm]
  rw [e] at hs ⊢
  rw [hu]; show (if _ then _ else _) = _; rw [if_neg (by rw [q]; decide), if_neg hs, if_pos hl]
theorem rl_4 (hu : u = (th σ (sLf σ v) 0).2) (q : (th σ (sLf σ v) 0).1 = 0) (hs : ¬ sSm u v = 0) (hl : ¬ less + 1 = n) : rl n (f + 1) v less σ = rl n f (v + 1) (less + 1) (da 200 (ssm u (upd (sSm u) v (sSm u v - 1)))) := by
  have e : sSm u = sSm σ := by rw [hu, th_sm]
  rw [e] at hs ⊢
  rw [hu]; show (if _ then _ else _) = _; rw [if_neg (by rw [q]; decide), if_neg hs, if_neg hl]
end RL
theorem mn_c {x w : Int32} : (if w < x then w else x) = mn x w := by
  unfold mn
  by_cases h : w < x
  · rw [if_pos h, if_neg (fun q => Int32.lt_irrefl (Int32.lt_trans h q))]
  · by_cases h2 : x < w
    · rw [if_neg h, if_pos h2]
    · rw [if_neg h, if_neg h2]; exact Int32.le_antisymm (i_nlt.mp h) (i_nlt.mp h2)
theorem mn_nI {a b : Nat} (ha : a < 2 ^ 31) (hb : b < 2 ^ 31) : mn (nI a) (nI b) = nI (min a b) := by
  unfold mn
  by_cases h : a < b
  · rw [if_pos (nI_lt h hb), Nat.min_eq_left (by omega)]
  · rw [if_neg (nI_nlt (by omega) ha), Nat.min_eq_right (by omega)]
theorem swp_w {σ : CS} {v w : Nat} (h : Inv σ) (hw : w ≤ 1000000) : ∃ z, z ≤ 1000000 ∧ nI w - mn (sSm σ v) (nI w) = nI z := by
  obtain ⟨a, ha, ea⟩ := h.sm v
  refine ⟨w - min a w, by omega, ?_⟩
  rw [ea, mn_nI (by omega) (by omega), pk_sub (by omega)]
theorem swp_inv {σ : CS} {v w : Nat} (h : Inv σ) (hv : v < sVc σ) (hw : w ≤ 1000000) : Inv (ssm σ (upd (sSm σ) v (sSm σ v - mn (sSm σ v) (nI w)))) := by
  obtain ⟨a, ha, ea⟩ := h.sm v
  exact upd_inv h hv (a := a - min a w) (by omega) (by rw [ea, mn_nI (by omega) (by omega), pk_sub (by omega)])
section SL
variable {n w : Int32} {f v : Nat} {σ u y : CS}
theorem sl_1 (hu : u = (th σ (sLf σ v) 0).2) (q : (th σ (sLf σ v) 0).1 = 1) : sl n (f + 1) v w σ = sl n f (v + 1) w u := by
  rw [hu]; show (if _ then _ else _) = _; rw [if_pos q]
theorem sl_2 (hu : u = (th σ (sLf σ v) 0).2) (q : (th σ (sLf σ v) 0).1 = 2) : sl n (f + 1) v w σ = (-7, ra u) := by
  rw [hu]; show (if _ then _ else _) = _; rw [if_neg (by rw [q]; decide), if_pos q]
theorem sl_3 (hu : u = (th σ (sLf σ v) 0).2) (q : (th σ (sLf σ v) 0).1 = 0) (hy : y = (th u (sRt σ v) 1).2) (q2 : (th u (sRt σ v) 1).1 = 1) : sl n (f + 1) v w σ = sl n f (v + 1) w (da 500 y) := by
  subst hu
  rw [hy]; show (if _ then _ else _) = _; rw [if_neg (by rw [q]; decide), if_neg (by rw [q]; decide), if_pos q2]
theorem sl_4 (hu : u = (th σ (sLf σ v) 0).2) (q : (th σ (sLf σ v) 0).1 = 0) (hy : y = (th u (sRt σ v) 1).2) (q2 : (th u (sRt σ v) 1).1 = 2) : sl n (f + 1) v w σ = (-7, ra y) := by
  subst hu
  rw [hy]; show (if _ then _ else _) = _; rw [if_neg (by rw [q]; decide), if_neg (by rw [q]; decide), if_neg (by rw [q2]; decide), if_pos q2]
theorem sl_5 (hu : u = (th σ (sLf σ v) 0).2) (q : (th σ (sLf σ v) 0).1 = 0) (hy : y = (th u (sRt σ v) 1).2) (q2 : (th u (sRt σ v) 1).1 = 0) : sl n (f + 1) v w σ = swp n (sl n f (v + 1)) v w y := by
  subst hu
  rw [hy]; show (if _ then _ else _) = _; rw [if_neg (by rw [q]; decide), if_neg (by rw [q]; decide), if_neg (by rw [q2]; decide), if_neg (by rw [q2]; decide)]
end SL
section WL
variable {n t : Int32} {f j : Nat} {σ u : CS}
theorem wl_e (x : Int32) : wl n 0 x t σ = (t, da 200 σ) := rfl
theorem wl_n : wl n f (-1) t σ = (t, da 200 σ) := by
  cases f
  · rfl
  · show (if _ then _ else _) = _; rw [if_pos rfl]
theorem wl_1 (hj : j < 2 ^ 31) (hu : u = (th σ (sLf σ j) 0).2) (q : (th σ (sLf σ j) 0).1 = 1) : wl n (f + 1) (nI j) t σ = (t, da 200 u) := by
  rw [hu]; show (if _ then _ else _) = _; rw [if_neg (nI_nm1 hj), nI_clamp hj, if_pos q]
theorem wl_2 (hj : j < 2 ^ 31) (hu : u = (th σ (sLf σ j) 0).2) (q : (th σ (sLf σ j) 0).1 = 2) : wl n (f + 1) (nI j) t σ = (-7, ra u) := by
  rw [hu]; show (if _ then _ else _) = _; rw [if_neg (nI_nm1 hj), nI_clamp hj, if_neg (by rw [q]; decide), if_pos q]
theorem wl_3 (hj : j < 2 ^ 31) (hu : u = (th σ (sLf σ j) 0).2) (q : (th σ (sLf σ j) 0).1 = 0) (hn : n < t + sSm u j) : wl n (f + 1) (nI j) t σ = (-6, ra u) := by
  have e : sSm u = sSm σ := by rw [hu, th_sm]
  rw [e] at hn
  rw [hu]; show (if _ then _ else _) = _; rw [if_neg (nI_nm1 hj), nI_clamp hj, if_neg (by rw [q]; decide), if_neg (by rw [q]; decide), if_pos hn]
theorem wl_4 (hj : j < 2 ^ 31) (hu : u = (th σ (sLf σ j) 0).2) (q : (th σ (sLf σ j) 0).1 = 0) (hn : ¬ n < t + sSm u j) : wl n (f + 1) (nI j) t σ = wl n f (sNx u j) (t + sSm u j) u := by
  have e : sSm u = sSm σ := by rw [hu, th_sm]
  have e2 : sNx u = sNx σ := by rw [hu, th_nx]
  rw [e] at hn
  rw [e, e2]
  rw [hu]; show (if _ then _ else _) = _; rw [if_neg (nI_nm1 hj), nI_clamp hj, if_neg (by rw [q]; decide), if_neg (by rw [q]; decide), if_neg hn]
end WL
theorem walk_b {σ : CS} {v m n : Int32} (h : ¬ ((ix (sVc σ) v).isSome = true ∧ (1 ≤ m ∧ m ≤ 60) ∧ 0 ≤ n)) : f_walk σ v m n = (-2, σ) := if_neg h
theorem walk_g {σ : CS} {j k : Nat} {n : Int32} (h0 : ix (sVc σ) (nI j) = some j) (h1 : 1 ≤ k) (h2 : k ≤ 60) (hn : 0 ≤ n) : f_walk σ (nI j) (nI k) n = wl n k (nI j) 0 σ := by
  unfold f_walk
  rw [if_pos ⟨ix_some_s h0, ⟨nI_le (a := 1) h1 (by omega), nI_le (b := 60) h2 (by decide)⟩, hn⟩, nI_clamp (by omega)]
theorem d_one {σ : CS} {w : Int32} {k : Nat} (hg : sGr σ = 1) (ek : sGp σ 0 = nI k) (hk : k < 2 ^ 31) : sgr (wr (w + nI k) (dec σ k)) 0 = da w σ := by
  unfold da
  rw [hg]
  show _ = sgr (d1 w (sGp σ 0) σ) 0
  rw [d1_k ek hk]
theorem Stq.da {σ u : CS} {d : Nat} {w : Int32} (h : Stq σ u d) : Stq σ (da w u) d := (h.tr (da_st h.1)).le (by omega)
theorem Stq.ra {σ u : CS} {d : Nat} (h : Stq σ u d) : Stq σ (ra u) d := (h.tr (ra_st h.1)).le (by omega)
theorem Stq.ssm {σ u : CS} {d : Nat} {f : Ar} (h : Stq σ u d) (hI : Inv (ssm u f)) : Stq σ (ssm u f) d := ⟨hI, h.2.1, h.2.2.1, h.2.2.2.1, h.2.2.2.2⟩
-- what the calls of an order leave
theorem put_st {σ : CS} {v n : Int32} (hI : Inv σ) (hg : sGr σ = 0) : Stq σ (f_put σ v n).2 8 ∧ sGr (f_put σ v n).2 = 0 := by
  have hvc := hI.vc
  rcases ix_cases (n := sVc σ) v (by omega) with h0 | ⟨j, hj, rfl⟩
  · rw [put_b1 h0]; exact ⟨Stq.rf hI, hg⟩
  · have h0 := ix_nI hj (n := sVc σ) (by omega)
    by_cases hn : amt n
    · have s1 := tb_st (v := j) hI hj (by omega)
      have hj1 : j < sVc (tb σ j).2 := by rw [s1.2.1]; exact hj
      rw [put_g h0 hn]; unfold g_put
      split
      · split
        · exact ⟨(Stq.da s1).le (by omega), rfl⟩
        · next hc => exact ⟨(Stq.da (Stq.ssm s1 (put_inv s1.1 hj1 hn hc))).le (by omega), rfl⟩
      · next q => exact ⟨s1.le (by omega), tb_gr1 q⟩
    · rw [put_b2 h0 hn]; exact ⟨Stq.rf hI, hg⟩
theorem take_st {σ : CS} {v n : Int32} (hI : Inv σ) (hg : sGr σ = 0) : Stq σ (f_take σ v n).2 8 ∧ sGr (f_take σ v n).2 = 0 := by
  have hvc := hI.vc
  rcases ix_cases (n := sVc σ) v (by omega) with h0 | ⟨j, hj, rfl⟩
  · rw [take_b1 h0]; exact ⟨Stq.rf hI, hg⟩
  · have h0 := ix_nI hj (n := sVc σ) (by omega)
    by_cases hn : amt n
    · have s1 := tb_st (v := j) hI hj (by omega)
      have hj1 : j < sVc (tb σ j).2 := by rw [s1.2.1]; exact hj
      rw [take_g h0 hn]; unfold g_take
      split
      · split
        · exact ⟨(Stq.ra s1).le (by omega), rfl⟩
        · next hc => exact ⟨(Stq.da (Stq.ssm s1 (take_inv s1.1 hj1 hn hc))).le (by omega), rfl⟩
      · next q => exact ⟨s1.le (by omega), tb_gr1 q⟩
    · rw [take_b2 h0 hn]; exact ⟨Stq.rf hI, hg⟩
theorem split_st {σ : CS} {v n : Int32} (hI : Inv σ) (hg : sGr σ = 0) : Stq σ (f_split σ v n).2 8 ∧ sGr (f_split σ v n).2 = 0 := by
  have hvc := hI.vc
  rcases ix_cases (n := sVc σ) v (by omega) with h0 | ⟨j, hj, rfl⟩
  · rw [split_b1 h0]; exact ⟨Stq.rf hI, hg⟩
  · have h0 := ix_nI hj (n := sVc σ) (by omega)
    by_cases hn : 0 ≤ n ∧ n ≤ 1000
    · have s1 := tb_st (v := j) hI hj (by omega)
      rw [split_g h0 hn]; unfold g_split
      split
      · split
        · exact ⟨(Stq.ra s1).le (by omega), rfl⟩
        · exact ⟨(Stq.da s1).le (by omega), rfl⟩
      · next q => exact ⟨s1.le (by omega), tb_gr1 q⟩
    · rw [split_b2 h0 hn]; exact ⟨Stq.rf hI, hg⟩
theorem swap_st {σ : CS} {v : Int32} (hI : Inv σ) (hg : sGr σ = 0) : Stq σ (f_swap σ v).2 8 ∧ sGr (f_swap σ v).2 = 0 := by
  have hvc := hI.vc
  rcases ix_cases (n := sVc σ) v (by omega) with h0 | ⟨j, hj, rfl⟩
  · rw [swap_b1 h0]; exact ⟨Stq.rf hI, hg⟩
  · have h0 := ix_nI hj (n := sVc σ) (by omega)
    have s1 := tb_st (v := j) hI hj (by omega)
    have hj1 : j < sVc (tb σ j).2 := by rw [s1.2.1]; exact hj
    rw [swap_g h0]; unfold g_swap
    split
    · exact ⟨(Stq.da (⟨swap_inv s1.1 hj1, s1.2.1, s1.2.2.1, s1.2.2.2.1, s1.2.2.2.2⟩ : Stq σ _ 4)).le (by omega), rfl⟩
    · next q => exact ⟨s1.le (by omega), tb_gr1 q⟩
theorem move_st {σ : CS} {a b n : Int32} (hI : Inv σ) (hg : sGr σ = 0) : Stq σ (f_move σ a b n).2 8 ∧ sGr (f_move σ a b n).2 = 0 := by
  have hvc := hI.vc
  rcases ix_cases (n := sVc σ) a (by omega) with h0 | ⟨i, hi, rfl⟩
  · rw [move_b1 h0]; exact ⟨Stq.rf hI, hg⟩
  · have h0 := ix_nI hi (n := sVc σ) (by omega)
    rcases ix_cases (n := sVc σ) b (by omega) with h1 | ⟨j, hj, rfl⟩
    · rw [move_b2 h0 h1]; exact ⟨Stq.rf hI, hg⟩
    · have h1 := ix_nI hj (n := sVc σ) (by omega)
      by_cases hn : amt n
      · have s1 := tb_st (v := i) hI hi (by omega)
        have g1 := tb_gr (σ := σ) (v := i)
        by_cases q : (tb σ i).1 = 0
        · rw [move_g h0 h1 hn q]
          generalize hu : (tb σ i).2 = u at s1 g1
          have hj1 : j < sVc u := by rw [s1.2.1]; exact hj
          have hi1 : i < sVc u := by rw [s1.2.1]; exact hi
          have s2 := tb_st (v := j) s1.1 hj1 (by omega)
          have s3 := s1.tr s2
          have q1 := tb_gr1 (σ := u) (v := j)
          generalize tb u j = t at s2 s3 q1
          have hj2 : j < sVc t.2 := by rw [s2.2.1]; exact hj1
          have hi2 : i < sVc t.2 := by rw [s2.2.1]; exact hi1
          unfold g_move
          split
          · split
            · exact ⟨(Stq.ra s3).le (by omega), rfl⟩
            · next hc =>
              split
              · exact ⟨(Stq.da s3).le (by omega), rfl⟩
              · next hd => exact ⟨(Stq.da (Stq.ssm s3 (move_inv s2.1 hi2 hj2 hn hc hd))).le (by omega), rfl⟩
          · next q2 => exact ⟨s3.le (by omega), q1 q2⟩
        · rw [move_g1 h0 h1 hn q]; exact ⟨s1.le (by omega), tb_gr1 q⟩
      · rw [move_b3 h0 h1 hn]; exact ⟨Stq.rf hI, hg⟩
theorem ex_st {σ : CS} {i : Nat} (hI : Inv σ) (hg : sGr σ = 0) : Stq σ (ex σ i).2 8 ∧ sGr (ex σ i).2 = 0 := by
  unfold ex
  split
  · exact put_st hI hg
  · split
    · exact take_st hI hg
    · split
      · exact move_st hI hg
      · exact swap_st hI hg
/-- an order as the class does it -/
def dor (σ : CS) (i : Nat) : Int32 × CS := if sOp σ i = 4 then (0, σ) else (bz (¬ ((ex σ i).1 = -6 ∨ (ex σ i).1 = -7)), (ex σ i).2)
section RN
variable {f i : Nat} {σ : CS}
theorem rn_1 (h : sOp σ i = 4) : rn (f + 1) i σ = (i, σ) := by show (if _ then _ else _) = _; rw [if_pos h]
theorem rn_2 (h : ¬ sOp σ i = 4) (q : (ex σ i).1 = -6 ∨ (ex σ i).1 = -7) : rn (f + 1) i σ = (i, (ex σ i).2) := by show (if _ then _ else _) = _; rw [if_neg h, if_pos q]
theorem rn_3 (h : ¬ sOp σ i = 4) (q : ¬ ((ex σ i).1 = -6 ∨ (ex σ i).1 = -7)) : rn (f + 1) i σ = rn f (i + 1) (ex σ i).2 := by show (if _ then _ else _) = _; rw [if_neg h, if_neg q]
theorem ex_0 (h : sOp σ i = 0) : ex σ i = f_put σ (sFi σ i) (sAm σ i) := if_pos h
theorem ex_1 (h : sOp σ i = 1) : ex σ i = f_take σ (sFi σ i) (sAm σ i) := by unfold ex; rw [if_neg (by rw [h]; decide), if_pos h]
theorem ex_2 (h : sOp σ i = 2) : ex σ i = f_move σ (sFi σ i) (sSe σ i) (sAm σ i) := by unfold ex; rw [if_neg (by rw [h]; decide), if_neg (by rw [h]; decide), if_pos h]
theorem ex_3 (h : sOp σ i = 3) : ex σ i = f_swap σ (sFi σ i) := by unfold ex; rw [if_neg (by rw [h]; decide), if_neg (by rw [h]; decide), if_neg (by rw [h]; decide)]
end RN
end
section
set_option maxHeartbeats 4000000 in
set_option maxRecDepth 100000 in
theorem c_X4_hasRow (l : Launch) (D : va_G) (cA : ClassId) (ad : Nat → Nat) (A : Nat → Prop) (hDD : ∀ u, va_D A (cW ad cA u)) (σ : CS) (a mm : Int32) (hI : Inv σ) : Ct l D cA (cW ad cA) A yX4_hasRow cX4_hasRow 3 (some .boolean) 1 22 [.ref (ad 0), .int a, .int mm] σ (fun r u => r = bz ((row σ a mm).isSome = true) ∧ u = σ) := by
  refine Ct.of (by decide) (Nat.le_of_ble_eq_true rfl) ?_
  intro p e s m below meth c ls S0 hr hlocks hK hP hS hl
  obtain ⟨hx, hb, hml, hown, hts⟩ := id S0
  have hl : lv_has ls 3 [(0, .ref (ad 0)), (1, .int a), (2, .int mm)] := hl
  have hkc := hI.kc
  have hvc := hI.vc
  have hgc := hI.gr
  have htc := hI.tc
  rcases ix_cases (n := sVc σ) a (by omega) with h0 | ⟨i, hi, rfl⟩
  · refine lv_aload_n hx hb dX4_hasRow_0 rfl (lv_at hl 0 rfl) ?_
    refine va_get (D := D) (ci := 4) (v := .ref (ad 2)) (C := RX4) (T := TX4) (N := 7) hx hb hts in_X4 hown hK hP 0 rfl rfl 1 (by decide) (hts _ kf_X4_19) (fun _ h9 => h9) rfl dX4_hasRow_1 ?_
    refine lv_iload_n hx hb dX4_hasRow_4 rfl (lv_at hl 1 rfl) ?_
    refine cl_i (rest := []) (c_X3_has l D cA ad A hDD σ a ) ⟨hx, hb, hml, hown, hts⟩ hK hP hS kv_X4_75 ⟨Nat.le_of_ble_eq_true rfl, Nat.le_of_ble_eq_true rfl⟩ ⟨Nat.zero_le _, Nat.zero_le _⟩ 2 rfl rfl rfl hl.1 rfl (Nat.le_of_ble_eq_true rfl) (fun q h => h) dX4_hasRow_5 (fun r u H locs hw hP hS _ => ?_)
    rw [hw.2] at hP
    refine tp_i (z := (hz (sVc σ) a)) hw.1 ?_
    refine tp_i (z := 0) (hz_0 h0) ?_
    refine lv_if_eq (tgt := 38) hx hb dX4_hasRow_8 (by decide) (fun _ => ?_) (fun c9 => absurd (by decide) c9)
    refine lv_iconst (v := 0) hx hb dX4_hasRow_38 (by decide) ?_
    exact rt_z (v := 0) (u := σ) hx hb hr hlocks rfl hS hP (⟨(bz_0 (isS_0 (row_n h0))).symm, rfl⟩) dX4_hasRow_39
  · have h0 := ix_nI hi (n := sVc σ) (by omega)
    refine lv_aload_n hx hb dX4_hasRow_0 rfl (lv_at hl 0 rfl) ?_
    refine va_get (D := D) (ci := 4) (v := .ref (ad 2)) (C := RX4) (T := TX4) (N := 7) hx hb hts in_X4 hown hK hP 0 rfl rfl 1 (by decide) (hts _ kf_X4_19) (fun _ h9 => h9) rfl dX4_hasRow_1 ?_
    refine lv_iload_n hx hb dX4_hasRow_4 rfl (lv_at hl 1 rfl) ?_
    refine cl_i (rest := []) (c_X3_has l D cA ad A hDD σ (nI i) ) ⟨hx, hb, hml, hown, hts⟩ hK hP hS kv_X4_75 ⟨Nat.le_of_ble_eq_true rfl, Nat.le_of_ble_eq_true rfl⟩ ⟨Nat.zero_le _, Nat.zero_le _⟩ 2 rfl rfl rfl hl.1 rfl (Nat.le_of_ble_eq_true rfl) (fun q h => h) dX4_hasRow_5 (fun r u H locs hw hP hS _ => ?_)
    rw [hw.2] at hP
    refine tp_i (z := (hz (sVc σ) (nI i))) hw.1 ?_
    refine tp_i (z := 1) (hz_1 h0) ?_
    refine lv_if_eq (tgt := 38) hx hb dX4_hasRow_8 (by decide) (fun c9 => absurd c9 (by decide)) (fun _ => ?_)
    by_cases hm : 1 ≤ mm ∧ mm ≤ 12
    · obtain ⟨k, hk1, hk2, rfl⟩ := rng (lo := 1) (hi := 12) (by decide) (by decide) hm
      refine lv_iload_n hx hb dX4_hasRow_11 rfl (lv_at hl 2 rfl) ?_
      refine lv_iconst (v := 1) hx hb dX4_hasRow_12 (by decide) ?_
      refine lv_bipush (v := 12) hx hb dX4_hasRow_13 (by decide) ?_
      refine cl_s (rest := []) (c_X4_isWithin l D cA ad A hDD σ (nI k) 1 12 ) ⟨hx, hb, hml, hown, hts⟩ hK hP hS kv_X4_48 ⟨Nat.le_of_ble_eq_true rfl, Nat.le_of_ble_eq_true rfl⟩ ⟨Nat.zero_le _, Nat.zero_le _⟩ rfl hl.1 rfl (Nat.le_of_ble_eq_true rfl) (fun q h => h) dX4_hasRow_15 (fun r u H locs hw hP hS => ?_)
      rw [hw.2] at hP
      refine tp_i (z := (bz (1 ≤ (nI k) ∧ (nI k) ≤ 12))) hw.1 ?_
      refine tp_i (z := 1) (bz_1 hm) ?_
      refine lv_if_eq (tgt := 38) hx hb dX4_hasRow_18 (by decide) (fun c9 => absurd c9 (by decide)) (fun _ => ?_)
      refine lv_iload_n hx hb dX4_hasRow_21 rfl (lv_at hl 1 rfl) ?_
      refine lv_iload_n hx hb dX4_hasRow_22 rfl (lv_at hl 2 rfl) ?_
      refine lv_iadd hx hb dX4_hasRow_23 ?_
      refine tp_i (z := (nI (i + k))) (nI_add _ _) ?_
      refine lv_aload_n hx hb dX4_hasRow_24 rfl (lv_at hl 0 rfl) ?_
      refine va_get (D := D) (ci := 4) (v := .ref (ad 2)) (C := RX4) (T := TX4) (N := 7) hx hb hts in_X4 hown hK hP 0 rfl rfl 1 (by decide) (hts _ kf_X4_19) (fun _ h9 => h9) rfl dX4_hasRow_25 ?_
      refine va_get (D := D) (ci := 3) (v := .int (nI (sVc σ))) (C := RX3) (T := TX3) (N := 6) hx hb hts in_X3 hown hK hP 2 rfl rfl 5 (by decide) (hts _ kf_X4_169) (fun _ h9 => h9) rfl dX4_hasRow_28 ?_
      refine lv_icmp_gt (tgt := 38) hx hb dX4_hasRow_31 (by decide) (fun c31 => ?_) (fun c31 => ?_)
      · refine lv_iconst (v := 0) hx hb dX4_hasRow_38 (by decide) ?_
        exact rt_z (v := 0) (u := σ) hx hb hr hlocks rfl hS hP (⟨(bz_0 (isS_0 (row_no h0 hk2 (fun q => i_nlt.mpr (nI_le (by omega) (by omega)) c31)))).symm, rfl⟩) dX4_hasRow_39
      · refine lv_iconst (v := 1) hx hb dX4_hasRow_34 (by decide) ?_
        refine lv_goto (tgt := 39) hx hb dX4_hasRow_35 (by decide) ?_
        exact rt_z (v := 1) (u := σ) hx hb hr hlocks rfl hS hP (⟨(bz_1 (isS_1 (row_ok h0 hk1 hk2 (Nat.not_lt.mp (fun q => c31 (nI_lt (by omega) (by omega))))))).symm, rfl⟩) dX4_hasRow_39
    · skip
      refine lv_iload_n hx hb dX4_hasRow_11 rfl (lv_at hl 2 rfl) ?_
      refine lv_iconst (v := 1) hx hb dX4_hasRow_12 (by decide) ?_
      refine lv_bipush (v := 12) hx hb dX4_hasRow_13 (by decide) ?_
      refine cl_s (rest := []) (c_X4_isWithin l D cA ad A hDD σ mm 1 12 ) ⟨hx, hb, hml, hown, hts⟩ hK hP hS kv_X4_48 ⟨Nat.le_of_ble_eq_true rfl, Nat.le_of_ble_eq_true rfl⟩ ⟨Nat.zero_le _, Nat.zero_le _⟩ rfl hl.1 rfl (Nat.le_of_ble_eq_true rfl) (fun q h => h) dX4_hasRow_15 (fun r u H locs hw hP hS => ?_)
      rw [hw.2] at hP
      refine tp_i (z := (bz (1 ≤ mm ∧ mm ≤ 12))) hw.1 ?_
      refine tp_i (z := 0) (bz_0 hm) ?_
      refine lv_if_eq (tgt := 38) hx hb dX4_hasRow_18 (by decide) (fun _ => ?_) (fun c9 => absurd (by decide) c9)
      refine lv_iconst (v := 0) hx hb dX4_hasRow_38 (by decide) ?_
      exact rt_z (v := 0) (u := σ) hx hb hr hlocks rfl hS hP (⟨(bz_0 (isS_0 (row_b h0 (fun q => hm ⟨q.1, q.2.1⟩)))).symm, rfl⟩) dX4_hasRow_39
set_option maxHeartbeats 4000000 in
set_option maxRecDepth 100000 in
theorem c_X4_rounds (l : Launch) (D : va_G) (cA : ClassId) (ad : Nat → Nat) (A : Nat → Prop) (hDD : ∀ u, va_D A (cW ad cA u)) (σ : CS) (a mm n0 : Int32) (hI : Inv σ) (hg : sGr σ = 0) (hb9 : sBc σ ≤ 1000000000) : Ct l D cA (cW ad cA) A yX4_rounds cX4_rounds 6 (some .int) 3 66 [.ref (ad 0), .int a, .int mm, .int n0] σ (fun r u => r = (f_rounds σ a mm n0).1 ∧ u = (f_rounds σ a mm n0).2) := by
  refine Ct.of (by decide) (Nat.le_of_ble_eq_true rfl) ?_
  intro p e s m below meth c ls S0 hr hlocks hK hP hS hl
  obtain ⟨hx, hb, hml, hown, hts⟩ := id S0
  have hl : lv_has ls 6 [(0, .ref (ad 0)), (1, .int a), (2, .int mm), (3, .int n0)] := hl
  have hkc := hI.kc
  have hvc := hI.vc
  have hgc := hI.gr
  have htc := hI.tc
  rcases hrw : row σ a mm with _ | q
  · skip
    refine lv_aload_n hx hb dX4_rounds_0 rfl (lv_at hl 0 rfl) ?_
    refine lv_iload_n hx hb dX4_rounds_1 rfl (lv_at hl 1 rfl) ?_
    refine lv_iload_n hx hb dX4_rounds_2 rfl (lv_at hl 2 rfl) ?_
    refine cl_i (rest := []) (c_X4_hasRow l D cA ad A hDD σ a mm hI) ⟨hx, hb, hml, hown, hts⟩ hK hP hS kv_X4_103 ⟨Nat.le_of_ble_eq_true rfl, Nat.le_of_ble_eq_true rfl⟩ ⟨Nat.zero_le _, Nat.zero_le _⟩ 0 rfl rfl rfl hl.1 rfl (Nat.le_of_ble_eq_true rfl) (fun q h => h) dX4_rounds_3 (fun r u H locs hw hP hS _ => ?_)
    rw [hw.2] at hP
    refine tp_i (z := (bz ((row σ a mm).isSome = true))) hw.1 ?_
    refine tp_i (z := 0) (bz_0 (isS_0 hrw)) ?_
    refine lv_if_eq (tgt := 19) hx hb dX4_rounds_6 (by decide) (fun _ => ?_) (fun c9 => absurd (by decide) c9)
    refine lv_bipush (v := (-2)) hx hb dX4_rounds_19 (by decide) ?_
    exact rt_i (v := (-2)) (u := σ) hx hb hr hlocks hS hP (pr2 (rounds_b hrw)) dX4_rounds_21
  · obtain ⟨i, k⟩ := q
    obtain ⟨rfl, rfl, hk1, hk2, hik⟩ := row_f hvc hrw
    refine lv_aload_n hx hb dX4_rounds_0 rfl (lv_at hl 0 rfl) ?_
    refine lv_iload_n hx hb dX4_rounds_1 rfl (lv_at hl 1 rfl) ?_
    refine lv_iload_n hx hb dX4_rounds_2 rfl (lv_at hl 2 rfl) ?_
    refine cl_i (rest := []) (c_X4_hasRow l D cA ad A hDD σ (nI i) (nI k) hI) ⟨hx, hb, hml, hown, hts⟩ hK hP hS kv_X4_103 ⟨Nat.le_of_ble_eq_true rfl, Nat.le_of_ble_eq_true rfl⟩ ⟨Nat.zero_le _, Nat.zero_le _⟩ 0 rfl rfl rfl hl.1 rfl (Nat.le_of_ble_eq_true rfl) (fun q h => h) dX4_rounds_3 (fun r u H locs hw hP hS _ => ?_)
    rw [hw.2] at hP
    refine tp_i (z := (bz ((row σ (nI i) (nI k)).isSome = true))) hw.1 ?_
    refine tp_i (z := 1) (bz_1 (isS_1 hrw)) ?_
    refine lv_if_eq (tgt := 19) hx hb dX4_rounds_6 (by decide) (fun c9 => absurd c9 (by decide)) (fun _ => ?_)
    by_cases hn : 1 ≤ n0 ∧ n0 ≤ 12
    · obtain ⟨n, hn1, hn2, rfl⟩ := rng (lo := 1) (hi := 12) (by decide) (by decide) hn
      have loop : ∀ (f v less : Nat) (τ : CS) (H : Heap) (locs : List Loc) (ls : Array Slot), v + f = i + k → less < n → Inv τ → sGr τ = 0 → sVc τ = sVc σ → sBc τ + 2 * f ≤ 1000001000 → rl n f v less τ = rl n k i 0 σ → va_P D vwCl (cW ad cA τ) H → va_S A s.heap H locs → lv_has ls 6 [(5, .int (nI v)), (4, .int (nI less)), (0, .ref (ad 0)), (1, .int (nI i)), (2, .int (nI k)), (3, .int (nI n))] → W p l e { frames := 3, cells := 0, slots := 0, locals := 66 } s m ([.ref (ad 0), .int (nI i), .int (nI k), .int (nI n)] : List Value).toArray below meth c H locs 0 0 (MQ below (va_Qi (fun r u => r = (f_rounds σ (nI i) (nI k) (nI n)).1 ∧ u = (f_rounds σ (nI i) (nI k) (nI n)).2) (fun u t => va_P D vwCl (cW ad cA u) t.heap) A) ([.ref (ad 0), .int (nI i), .int (nI k), .int (nI n)] : List Value).toArray s 0 0 A) (F0 m 28 ls []) := by
        intro f
        induction f with
        | zero =>
          intro v less τ H locs ls hvf hln hIt hgt hvt hbt hE hP hS hl
          refine lv_iload hx hb dX4_rounds_28 (lv_at hl 0 rfl) ?_
          refine lv_iload_n hx hb dX4_rounds_30 rfl (lv_at hl 3 rfl) ?_
          refine lv_iload_n hx hb dX4_rounds_31 rfl (lv_at hl 4 rfl) ?_
          refine lv_iadd hx hb dX4_rounds_32 ?_
          refine tp_i (z := (nI (i + k))) (nI_add _ _) ?_
          refine lv_icmp_ge (tgt := 124) hx hb dX4_rounds_33 (by decide) (fun _ => ?_) (fun c9 => absurd (nI_le (by omega) (by omega)) c9)
          refine lv_iload hx hb dX4_rounds_124 (lv_at hl 1 rfl) ?_
          exact rt_i (v := (nI less)) (u := τ) hx hb hr hlocks hS hP ((by rw [rounds_g hrw hn1 hn2, ← hE]; exact ⟨rfl, rfl⟩)) dX4_rounds_126
        | succ f ih =>
          intro v less τ H locs ls hvf hln hIt hgt hvt hbt hE hP hS hl
          have hv2 : v < sVc τ := by omega
          have hvt12 := hIt.vc
          have s1 := th_st (h := 0) hIt (hIt.lf hv2) (by omega)
          refine lv_iload hx hb dX4_rounds_28 (lv_at hl 0 rfl) ?_
          refine lv_iload_n hx hb dX4_rounds_30 rfl (lv_at hl 3 rfl) ?_
          refine lv_iload_n hx hb dX4_rounds_31 rfl (lv_at hl 4 rfl) ?_
          refine lv_iadd hx hb dX4_rounds_32 ?_
          refine tp_i (z := (nI (i + k))) (nI_add _ _) ?_
          refine lv_icmp_ge (tgt := 124) hx hb dX4_rounds_33 (by decide) (fun c9 => absurd c9 (nI_ge (by omega) (by omega))) (fun _ => ?_)
          refine lv_iload hx hb dX4_rounds_36 (lv_at hl 1 rfl) ?_
          refine lv_iload_n hx hb dX4_rounds_38 rfl (lv_at hl 5 rfl) ?_
          refine lv_icmp_ge (tgt := 124) hx hb dX4_rounds_39 (by decide) (fun c9 => absurd c9 (nI_ge hln (by omega))) (fun _ => ?_)
          refine lv_aload_n hx hb dX4_rounds_42 rfl (lv_at hl 2 rfl) ?_
          refine lv_iload hx hb dX4_rounds_43 (lv_at hl 0 rfl) ?_
          refine lv_iconst (v := 0) hx hb dX4_rounds_45 (by decide) ?_
          refine cl_i (rest := []) (c_X4_turnHand l D cA ad A hDD τ v 0 (sLf τ v) (hd_0 _ _) (hIt.lf hv2) hIt hv2 (by omega) (by omega)) ⟨hx, hb, hml, hown, hts⟩ hK hP hS kv_X4_106 ⟨Nat.le_of_ble_eq_true rfl, Nat.le_of_ble_eq_true rfl⟩ ⟨Nat.zero_le _, Nat.zero_le _⟩ 0 rfl rfl rfl hl.1 rfl (Nat.le_of_ble_eq_true rfl) (fun q h => h) dX4_rounds_46 (fun r u1 H locs hw hP hS _ => ?_)
          have hu1 : u1 = (th τ (sLf τ v) 0).2 := hw.2
          refine tp_i (z := (thc (th τ (sLf τ v) 0).1)) hw.1 ?_
          rcases th_012 τ (sLf τ v) 0 with q | q | q
          · rw [← hu1] at s1
            have b1 := s1.2.2.2.2
            have hv3 : v < sVc u1 := by rw [s1.2.1]; exact hv2
            have hv312 := s1.1.vc
            have g1 : sGr u1 = 1 := by rw [hu1, th_gr0 q, hgt]
            refine tp_i (z := 0) (by rw [q]; rfl) ?_
            refine lv_if_eq (tgt := 55) hx hb dX4_rounds_49 (by decide) (fun _ => ?_) (fun c9 => absurd (by decide) c9)
            refine lv_aload_n hx hb dX4_rounds_55 rfl (lv_at hl 2 rfl) ?_
            refine va_get (D := D) (ci := 4) (v := .ref (ad 2)) (C := RX4) (T := TX4) (N := 7) hx hb hts in_X4 hown hK hP 0 rfl rfl 1 (by decide) (hts _ kf_X4_19) (fun _ h9 => h9) rfl dX4_rounds_56 ?_
            refine va_get (D := D) (ci := 3) (v := .ref (ad 11)) (C := RX3) (T := TX3) (N := 6) hx hb hts in_X3 hown hK hP 2 rfl rfl 1 (by decide) (hts _ kf_X4_91) (fun _ h9 => h9) rfl dX4_rounds_59 ?_
            refine lv_iload hx hb dX4_rounds_62 (lv_at hl 0 rfl) ?_
            refine ar_g hx hb hK hP 11 rfl (by omega) (by decide) dX4_rounds_64 ?_
            refine lv_if_ne (tgt := 80) hx hb dX4_rounds_65 (by decide) (fun c65 => ?_) (fun c65 => ?_)
            · refine lv_aload_n hx hb dX4_rounds_80 rfl (lv_at hl 2 rfl) ?_
              refine va_get (D := D) (ci := 4) (v := .ref (ad 2)) (C := RX4) (T := TX4) (N := 7) hx hb hts in_X4 hown hK hP 0 rfl rfl 1 (by decide) (hts _ kf_X4_19) (fun _ h9 => h9) rfl dX4_rounds_81 ?_
              refine va_get (D := D) (ci := 3) (v := .ref (ad 11)) (C := RX3) (T := TX3) (N := 6) hx hb hts in_X3 hown hK hP 2 rfl rfl 1 (by decide) (hts _ kf_X4_91) (fun _ h9 => h9) rfl dX4_rounds_84 ?_
              refine lv_iload hx hb dX4_rounds_87 (lv_at hl 0 rfl) ?_
              refine lv_dup2_11 hx hb dX4_rounds_89 rfl rfl ?_
              refine ar_g hx hb hK hP 11 rfl (by omega) (by decide) dX4_rounds_90 ?_
              refine lv_iconst (v := 1) hx hb dX4_rounds_91 (by decide) ?_
              refine lv_isub hx hb dX4_rounds_92 ?_
              refine ar_p hx hb hK hP (hDD _) hS 11 rfl (x := ((sSm u1 v) - 1)) (by omega) (by decide) dX4_rounds_93 (fun H locs hP hS => ?_)
              have hP : va_P D vwCl (cW ad cA (u1.1, ((sLim u1), (upd (sSm u1) v ((sSm u1 v) - 1)), (sNx u1), (sLf u1), (sRt u1), (sVc u1)), u1.2.2.1, u1.2.2.2.1, u1.2.2.2.2)) H := hP
              refine lv_iinc (v := (nI (less + 1))) (lv' := [(4, .int (nI (less + 1))), (5, .int (nI v)), (0, .ref (ad 0)), (1, .int (nI i)), (2, .int (nI k)), (3, .int (nI n))]) hx hb dX4_rounds_94 hl (k := 1) rfl (nI_1 _) (by decide) rfl (fun ls hl => ?_)
              refine lv_aload_n hx hb dX4_rounds_97 rfl (lv_at hl 2 rfl) ?_
              refine lv_iload hx hb dX4_rounds_98 (lv_at hl 0 rfl) ?_
              refine lv_iload_n hx hb dX4_rounds_100 rfl (lv_at hl 5 rfl) ?_
              refine lv_icmp_ne (tgt := 110) hx hb dX4_rounds_101 (by decide) (fun c101 => ?_) (fun c101 => ?_)
              · have hne : ¬ less + 1 = n := fun q => c101 (by rw [q])
                refine lv_sipush (v := 200) hx hb dX4_rounds_110 (by decide) ?_
                refine lv_iconst (v := (-1)) hx hb dX4_rounds_113 (by decide) ?_
                refine cl_i (rest := []) (c_X4_letGo l D cA ad A hDD (u1.1, ((sLim u1), (upd (sSm u1) v ((sSm u1 v) - 1)), (sNx u1), (sLf u1), (sRt u1), (sVc u1)), u1.2.2.1, u1.2.2.2.1, u1.2.2.2.2) 200 (-1) (dec_inv s1.1 hv3 c65) (by show sBc u1 + sGr u1 < 2147483647; omega)) ⟨hx, hb, hml, hown, hts⟩ hK hP hS kv_X4_88 ⟨Nat.le_of_ble_eq_true rfl, Nat.le_of_ble_eq_true rfl⟩ ⟨Nat.zero_le _, Nat.zero_le _⟩ 0 rfl rfl rfl hl.1 rfl (Nat.le_of_ble_eq_true rfl) (fun q h => h) dX4_rounds_114 (fun r u H locs hw hP hS _ => ?_)
                rw [hw.2] at hP
                refine tp_i (z := (-1)) hw.1 ?_
                refine lv_pop hx hb dX4_rounds_117 rfl ?_
                refine lv_iinc (v := (nI (v + 1))) (lv' := [(5, .int (nI (v + 1))), (4, .int (nI (less + 1))), (0, .ref (ad 0)), (1, .int (nI i)), (2, .int (nI k)), (3, .int (nI n))]) hx hb dX4_rounds_118 hl (k := 1) rfl (nI_1 _) (by decide) rfl (fun ls hl => ?_)
                refine lv_goto (tgt := 28) hx hb dX4_rounds_121 (by decide) ?_
                exact ih (v + 1) (less + 1) (da 200 (ssm u1 (upd (sSm u1) v (sSm u1 v - 1)))) _ _ ls (by omega) (by omega) (Stq.da (w := 200) (Stq.ssm s1 (dec_inv s1.1 hv3 c65))).1 rfl ((Stq.da (w := 200) (Stq.ssm s1 (dec_inv s1.1 hv3 c65))).2.1.trans hvt) (by have h7 := (Stq.da (w := 200) (Stq.ssm s1 (dec_inv s1.1 hv3 c65))).2.2.2.2; have h8 : sGr (da 200 (ssm u1 (upd (sSm u1) v (sSm u1 v - 1)))) = 0 := rfl; omega) ((rl_4 hu1 q c65 hne).symm.trans hE) hP hS (lv_sub hl [0, 1, 2, 3, 4, 5] rfl)
              · have heq : less + 1 = n := nI_inj (by omega) (by omega) c101
                refine lv_sipush (v := 400) hx hb dX4_rounds_104 (by decide) ?_
                refine lv_goto (tgt := 113) hx hb dX4_rounds_107 (by decide) ?_
                refine lv_iconst (v := (-1)) hx hb dX4_rounds_113 (by decide) ?_
                refine cl_i (rest := []) (c_X4_letGo l D cA ad A hDD (u1.1, ((sLim u1), (upd (sSm u1) v ((sSm u1 v) - 1)), (sNx u1), (sLf u1), (sRt u1), (sVc u1)), u1.2.2.1, u1.2.2.2.1, u1.2.2.2.2) 400 (-1) (dec_inv s1.1 hv3 c65) (by show sBc u1 + sGr u1 < 2147483647; omega)) ⟨hx, hb, hml, hown, hts⟩ hK hP hS kv_X4_88 ⟨Nat.le_of_ble_eq_true rfl, Nat.le_of_ble_eq_true rfl⟩ ⟨Nat.zero_le _, Nat.zero_le _⟩ 0 rfl rfl rfl hl.1 rfl (Nat.le_of_ble_eq_true rfl) (fun q h => h) dX4_rounds_114 (fun r u H locs hw hP hS _ => ?_)
                rw [hw.2] at hP
                refine tp_i (z := (-1)) hw.1 ?_
                refine lv_pop hx hb dX4_rounds_117 rfl ?_
                refine lv_iinc (v := (nI (v + 1))) (lv' := [(5, .int (nI (v + 1))), (4, .int (nI (less + 1))), (0, .ref (ad 0)), (1, .int (nI i)), (2, .int (nI k)), (3, .int (nI n))]) hx hb dX4_rounds_118 hl (k := 1) rfl (nI_1 _) (by decide) rfl (fun ls hl => ?_)
                refine lv_goto (tgt := 28) hx hb dX4_rounds_121 (by decide) ?_
                refine lv_iload hx hb dX4_rounds_28 (lv_at hl 0 rfl) ?_
                refine lv_iload_n hx hb dX4_rounds_30 rfl (lv_at hl 3 rfl) ?_
                refine lv_iload_n hx hb dX4_rounds_31 rfl (lv_at hl 4 rfl) ?_
                refine lv_iadd hx hb dX4_rounds_32 ?_
                refine tp_i (z := (nI (i + k))) (nI_add _ _) ?_
                refine lv_icmp_ge (tgt := 124) hx hb dX4_rounds_33 (by decide) (fun c33 => ?_) (fun c33 => ?_)
                · refine lv_iload hx hb dX4_rounds_124 (lv_at hl 1 rfl) ?_
                  exact rt_i (v := (nI (less + 1))) (u := (da 400 (u1.1, ((sLim u1), (upd (sSm u1) v ((sSm u1 v) - 1)), (sNx u1), (sLf u1), (sRt u1), (sVc u1)), u1.2.2.1, u1.2.2.2.1, u1.2.2.2.2))) hx hb hr hlocks hS hP ((by rw [rounds_g hrw hn1 hn2, ← hE, rl_3 hu1 q c65 heq]; exact ⟨rfl, rfl⟩)) dX4_rounds_126
                · refine lv_iload hx hb dX4_rounds_36 (lv_at hl 1 rfl) ?_
                  refine lv_iload_n hx hb dX4_rounds_38 rfl (lv_at hl 5 rfl) ?_
                  refine lv_icmp_ge (tgt := 124) hx hb dX4_rounds_39 (by decide) (fun _ => ?_) (fun c9 => absurd (nI_le (by omega) (by omega)) c9)
                  refine lv_iload hx hb dX4_rounds_124 (lv_at hl 1 rfl) ?_
                  exact rt_i (v := (nI (less + 1))) (u := (da 400 (u1.1, ((sLim u1), (upd (sSm u1) v ((sSm u1 v) - 1)), (sNx u1), (sLf u1), (sRt u1), (sVc u1)), u1.2.2.1, u1.2.2.2.1, u1.2.2.2.2))) hx hb hr hlocks hS hP ((by rw [rounds_g hrw hn1 hn2, ← hE, rl_3 hu1 q c65 heq]; exact ⟨rfl, rfl⟩)) dX4_rounds_126
            · refine lv_aload_n hx hb dX4_rounds_68 rfl (lv_at hl 2 rfl) ?_
              refine lv_sipush (v := 500) hx hb dX4_rounds_69 (by decide) ?_
              refine lv_iconst (v := (-1)) hx hb dX4_rounds_72 (by decide) ?_
              refine cl_i (rest := []) (c_X4_letGo l D cA ad A hDD u1 500 (-1) s1.1 (by omega)) ⟨hx, hb, hml, hown, hts⟩ hK hP hS kv_X4_88 ⟨Nat.le_of_ble_eq_true rfl, Nat.le_of_ble_eq_true rfl⟩ ⟨Nat.zero_le _, Nat.zero_le _⟩ 0 rfl rfl rfl hl.1 rfl (Nat.le_of_ble_eq_true rfl) (fun q h => h) dX4_rounds_73 (fun r u H locs hw hP hS _ => ?_)
              rw [hw.2] at hP
              refine tp_i (z := (-1)) hw.1 ?_
              refine lv_pop hx hb dX4_rounds_76 rfl ?_
              refine lv_goto (tgt := 118) hx hb dX4_rounds_77 (by decide) ?_
              refine lv_iinc (v := (nI (v + 1))) (lv' := [(5, .int (nI (v + 1))), (4, .int (nI less)), (0, .ref (ad 0)), (1, .int (nI i)), (2, .int (nI k)), (3, .int (nI n))]) hx hb dX4_rounds_118 hl (k := 0) rfl (nI_1 _) (by decide) rfl (fun ls hl => ?_)
              refine lv_goto (tgt := 28) hx hb dX4_rounds_121 (by decide) ?_
              exact ih (v + 1) less (da 500 u1) _ _ ls (by omega) (by omega) (Stq.da (w := 500) s1).1 rfl ((Stq.da (w := 500) s1).2.1.trans hvt) (by have h7 := (Stq.da (w := 500) s1).2.2.2.2; have h8 : sGr (da 500 u1) = 0 := rfl; omega) ((rl_2 hu1 q c65).symm.trans hE) hP hS (lv_sub hl [0, 1, 2, 3, 4, 5] rfl)
          · rw [← hu1] at s1
            have b1 := s1.2.2.2.2
            have hv3 : v < sVc u1 := by rw [s1.2.1]; exact hv2
            have hv312 := s1.1.vc
            have g1 : sGr u1 = 0 := by rw [hu1, th_gr1 (by rw [q]; decide), hgt]
            refine tp_i (z := 1) (by rw [q]; rfl) ?_
            refine lv_if_eq (tgt := 55) hx hb dX4_rounds_49 (by decide) (fun c9 => absurd c9 (by decide)) (fun _ => ?_)
            refine lv_goto (tgt := 118) hx hb dX4_rounds_52 (by decide) ?_
            refine lv_iinc (v := (nI (v + 1))) (lv' := [(5, .int (nI (v + 1))), (4, .int (nI less)), (0, .ref (ad 0)), (1, .int (nI i)), (2, .int (nI k)), (3, .int (nI n))]) hx hb dX4_rounds_118 hl (k := 0) rfl (nI_1 _) (by decide) rfl (fun ls hl => ?_)
            refine lv_goto (tgt := 28) hx hb dX4_rounds_121 (by decide) ?_
            exact ih (v + 1) less u1 _ _ ls (by omega) (by omega) s1.1 g1 (s1.2.1.trans hvt) (by have h7 := s1.2.2.2.2; have h8 : sGr u1 = 0 := g1; omega) ((rl_1 hu1 q).symm.trans hE) hP hS (lv_sub hl [0, 1, 2, 3, 4, 5] rfl)
          · exact absurd q (th_nojam hIt (hIt.lf hv2) hgt)
      refine lv_iload_n hx hb dX4_rounds_9 rfl (lv_at hl 3 rfl) ?_
      refine lv_iconst (v := 1) hx hb dX4_rounds_10 (by decide) ?_
      refine lv_bipush (v := 12) hx hb dX4_rounds_11 (by decide) ?_
      refine cl_s (rest := []) (c_X4_isWithin l D cA ad A hDD σ (nI n) 1 12 ) ⟨hx, hb, hml, hown, hts⟩ hK hP hS kv_X4_48 ⟨Nat.le_of_ble_eq_true rfl, Nat.le_of_ble_eq_true rfl⟩ ⟨Nat.zero_le _, Nat.zero_le _⟩ rfl hl.1 rfl (Nat.le_of_ble_eq_true rfl) (fun q h => h) dX4_rounds_13 (fun r u H locs hw hP hS => ?_)
      rw [hw.2] at hP
      refine tp_i (z := (bz (1 ≤ (nI n) ∧ (nI n) ≤ 12))) hw.1 ?_
      refine tp_i (z := 1) (bz_1 hn) ?_
      refine lv_if_ne (tgt := 22) hx hb dX4_rounds_16 (by decide) (fun _ => ?_) (fun c9 => absurd c9 (by decide))
      refine lv_iconst (v := 0) hx hb dX4_rounds_22 (by decide) ?_
      refine lv_istore (lv' := [(4, .int 0), (0, .ref (ad 0)), (1, .int (nI i)), (2, .int (nI k)), (3, .int (nI n))]) hx hb dX4_rounds_23 hl (by decide) rfl (fun ls hl => ?_)
      refine lv_iload_n hx hb dX4_rounds_25 rfl (lv_at hl 2 rfl) ?_
      refine lv_istore (lv' := [(5, .int (nI i)), (4, .int 0), (0, .ref (ad 0)), (1, .int (nI i)), (2, .int (nI k)), (3, .int (nI n))]) hx hb dX4_rounds_26 hl (by decide) rfl (fun ls hl => ?_)
      exact loop k i 0 σ _ _ ls rfl (by omega) hI hg rfl (by omega) rfl hP hS (lv_sub hl [0, 1, 2, 3, 4, 5] rfl)
    · skip
      refine lv_iload_n hx hb dX4_rounds_9 rfl (lv_at hl 3 rfl) ?_
      refine lv_iconst (v := 1) hx hb dX4_rounds_10 (by decide) ?_
      refine lv_bipush (v := 12) hx hb dX4_rounds_11 (by decide) ?_
      refine cl_s (rest := []) (c_X4_isWithin l D cA ad A hDD σ n0 1 12 ) ⟨hx, hb, hml, hown, hts⟩ hK hP hS kv_X4_48 ⟨Nat.le_of_ble_eq_true rfl, Nat.le_of_ble_eq_true rfl⟩ ⟨Nat.zero_le _, Nat.zero_le _⟩ rfl hl.1 rfl (Nat.le_of_ble_eq_true rfl) (fun q h => h) dX4_rounds_13 (fun r u H locs hw hP hS => ?_)
      rw [hw.2] at hP
      refine tp_i (z := (bz (1 ≤ n0 ∧ n0 ≤ 12))) hw.1 ?_
      refine tp_i (z := 0) (bz_0 hn) ?_
      refine lv_if_ne (tgt := 22) hx hb dX4_rounds_16 (by decide) (fun c9 => absurd (by decide) c9) (fun _ => ?_)
      refine lv_bipush (v := (-2)) hx hb dX4_rounds_19 (by decide) ?_
      exact rt_i (v := (-2)) (u := σ) hx hb hr hlocks hS hP (pr2 (rounds_b2 hrw hn)) dX4_rounds_21
end
section
set_option maxHeartbeats 4000000 in
set_option maxRecDepth 100000 in
theorem c_X5_areThere (l : Launch) (D : va_G) (cA : ClassId) (ad : Nat → Nat) (A : Nat → Prop) (hDD : ∀ u, va_D A (rW ad cA u)) (σ : CS) (a mm : Int32) (hI : Inv σ) : Ct l D cA (rW ad cA) A yX5_areThere cX5_areThere 3 (some .boolean) 0 0 [.ref (ad 0), .int a, .int mm] σ (fun r u => r = bz ((row σ a mm).isSome = true) ∧ u = σ) := by
  refine Ct.of (by decide) (Nat.le_of_ble_eq_true rfl) ?_
  intro p e s m below meth c ls S0 hr hlocks hK hP hS hl
  obtain ⟨hx, hb, hml, hown, hts⟩ := id S0
  have hl : lv_has ls 3 [(0, .ref (ad 0)), (1, .int a), (2, .int mm)] := hl
  have hkc := hI.kc
  have hvc := hI.vc
  have hgc := hI.gr
  have htc := hI.tc
  rcases ix_cases (n := sVc σ) a (by omega) with h0 | ⟨i, hi, rfl⟩
  · refine lv_iload_n hx hb dX5_areThere_0 rfl (lv_at hl 2 rfl) ?_
    refine lv_iconst (v := 1) hx hb dX5_areThere_1 (by decide) ?_
    refine lv_icmp_lt (tgt := 37) hx hb dX5_areThere_2 (by decide) (fun c2 => ?_) (fun c2 => ?_)
    · refine lv_iconst (v := 0) hx hb dX5_areThere_37 (by decide) ?_
      exact rt_z (v := 0) (u := σ) hx hb hr hlocks rfl hS hP (⟨(bz_0 (isS_0 (row_n h0))).symm, rfl⟩) dX5_areThere_38
    · refine lv_iload_n hx hb dX5_areThere_5 rfl (lv_at hl 2 rfl) ?_
      refine lv_bipush (v := 12) hx hb dX5_areThere_6 (by decide) ?_
      refine lv_icmp_gt (tgt := 37) hx hb dX5_areThere_8 (by decide) (fun c8 => ?_) (fun c8 => ?_)
      · refine lv_iconst (v := 0) hx hb dX5_areThere_37 (by decide) ?_
        exact rt_z (v := 0) (u := σ) hx hb hr hlocks rfl hS hP (⟨(bz_0 (isS_0 (row_n h0))).symm, rfl⟩) dX5_areThere_38
      · refine lv_iload_n hx hb dX5_areThere_11 rfl (lv_at hl 1 rfl) ?_
        refine lv_if_lt (tgt := 37) hx hb dX5_areThere_12 (by decide) (fun c12 => ?_) (fun c12 => ?_)
        · refine lv_iconst (v := 0) hx hb dX5_areThere_37 (by decide) ?_
          exact rt_z (v := 0) (u := σ) hx hb hr hlocks rfl hS hP (⟨(bz_0 (isS_0 (row_n h0))).symm, rfl⟩) dX5_areThere_38
        · refine lv_iload_n hx hb dX5_areThere_15 rfl (lv_at hl 1 rfl) ?_
          refine lv_aload_n hx hb dX5_areThere_16 rfl (lv_at hl 0 rfl) ?_
          refine va_get (D := D) (ci := 5) (v := .int (nI (sVc σ))) (C := RX5) (T := TX5) (N := 20) hx hb hts in_X5 hown hK hP 0 rfl rfl 9 (by decide) (hts _ kf_X5_56) (fun _ h9 => h9) rfl dX5_areThere_17 ?_
          refine lv_icmp_ge (tgt := 37) hx hb dX5_areThere_20 (by decide) (fun _ => ?_) (fun c9 => absurd (ix_none_ge h0 c12) c9)
          refine lv_iconst (v := 0) hx hb dX5_areThere_37 (by decide) ?_
          exact rt_z (v := 0) (u := σ) hx hb hr hlocks rfl hS hP (⟨(bz_0 (isS_0 (row_n h0))).symm, rfl⟩) dX5_areThere_38
  · have h0 := ix_nI hi (n := sVc σ) (by omega)
    refine lv_iload_n hx hb dX5_areThere_0 rfl (lv_at hl 2 rfl) ?_
    by_cases hm : 1 ≤ mm ∧ mm ≤ 12
    · obtain ⟨k, hk1, hk2, rfl⟩ := rng (lo := 1) (hi := 12) (by decide) (by decide) hm
      refine lv_iconst (v := 1) hx hb dX5_areThere_1 (by decide) ?_
      refine lv_icmp_lt (tgt := 37) hx hb dX5_areThere_2 (by decide) (fun c9 => absurd c9 (i_nlt.mpr hm.1)) (fun _ => ?_)
      refine lv_iload_n hx hb dX5_areThere_5 rfl (lv_at hl 2 rfl) ?_
      refine lv_bipush (v := 12) hx hb dX5_areThere_6 (by decide) ?_
      refine lv_icmp_gt (tgt := 37) hx hb dX5_areThere_8 (by decide) (fun c9 => absurd c9 (i_nlt.mpr hm.2)) (fun _ => ?_)
      refine lv_iload_n hx hb dX5_areThere_11 rfl (lv_at hl 1 rfl) ?_
      refine lv_if_lt (tgt := 37) hx hb dX5_areThere_12 (by decide) (fun c9 => absurd c9 (nI_pos (by omega))) (fun _ => ?_)
      refine lv_iload_n hx hb dX5_areThere_15 rfl (lv_at hl 1 rfl) ?_
      refine lv_aload_n hx hb dX5_areThere_16 rfl (lv_at hl 0 rfl) ?_
      refine va_get (D := D) (ci := 5) (v := .int (nI (sVc σ))) (C := RX5) (T := TX5) (N := 20) hx hb hts in_X5 hown hK hP 0 rfl rfl 9 (by decide) (hts _ kf_X5_56) (fun _ h9 => h9) rfl dX5_areThere_17 ?_
      refine lv_icmp_ge (tgt := 37) hx hb dX5_areThere_20 (by decide) (fun c9 => absurd c9 (nI_ge hi (by omega))) (fun _ => ?_)
      refine lv_iload_n hx hb dX5_areThere_23 rfl (lv_at hl 2 rfl) ?_
      refine lv_aload_n hx hb dX5_areThere_24 rfl (lv_at hl 0 rfl) ?_
      refine va_get (D := D) (ci := 5) (v := .int (nI (sVc σ))) (C := RX5) (T := TX5) (N := 20) hx hb hts in_X5 hown hK hP 0 rfl rfl 9 (by decide) (hts _ kf_X5_56) (fun _ h9 => h9) rfl dX5_areThere_25 ?_
      refine lv_iload_n hx hb dX5_areThere_28 rfl (lv_at hl 1 rfl) ?_
      refine lv_isub hx hb dX5_areThere_29 ?_
      refine tp_i (z := (nI ((sVc σ) - i))) (pk_sub (by omega)) ?_
      refine lv_icmp_gt (tgt := 37) hx hb dX5_areThere_30 (by decide) (fun c30 => ?_) (fun c30 => ?_)
      · refine lv_iconst (v := 0) hx hb dX5_areThere_37 (by decide) ?_
        exact rt_z (v := 0) (u := σ) hx hb hr hlocks rfl hS hP (⟨(bz_0 (isS_0 (row_no h0 hk2 (fun q => i_nlt.mpr (nI_le (by omega) (by omega)) c30)))).symm, rfl⟩) dX5_areThere_38
      · refine lv_iconst (v := 1) hx hb dX5_areThere_33 (by decide) ?_
        refine lv_goto (tgt := 38) hx hb dX5_areThere_34 (by decide) ?_
        exact rt_z (v := 1) (u := σ) hx hb hr hlocks rfl hS hP (⟨(bz_1 (isS_1 (row_ok h0 hk1 hk2 (Nat.not_lt.mp (fun q => c30 (nI_lt (by omega) (by omega))))))).symm, rfl⟩) dX5_areThere_38
    · skip
      refine lv_iconst (v := 1) hx hb dX5_areThere_1 (by decide) ?_
      refine lv_icmp_lt (tgt := 37) hx hb dX5_areThere_2 (by decide) (fun c2 => ?_) (fun c2 => ?_)
      · refine lv_iconst (v := 0) hx hb dX5_areThere_37 (by decide) ?_
        exact rt_z (v := 0) (u := σ) hx hb hr hlocks rfl hS hP (⟨(bz_0 (isS_0 (row_b h0 (fun q => hm ⟨q.1, q.2.1⟩)))).symm, rfl⟩) dX5_areThere_38
      · refine lv_iload_n hx hb dX5_areThere_5 rfl (lv_at hl 2 rfl) ?_
        refine lv_bipush (v := 12) hx hb dX5_areThere_6 (by decide) ?_
        refine lv_icmp_gt (tgt := 37) hx hb dX5_areThere_8 (by decide) (fun _ => ?_) (fun c9 => absurd (i_nle.mp (fun q => hm ⟨i_nlt.mp c2, q⟩)) c9)
        refine lv_iconst (v := 0) hx hb dX5_areThere_37 (by decide) ?_
        exact rt_z (v := 0) (u := σ) hx hb hr hlocks rfl hS hP (⟨(bz_0 (isS_0 (row_b h0 (fun q => hm ⟨q.1, q.2.1⟩)))).symm, rfl⟩) dX5_areThere_38
theorem c_X5_dropTop1 (l : Launch) (D : va_G) (cA : ClassId) (ad : Nat → Nat) (A : Nat → Prop) (hDD : ∀ u, va_D A (rW ad cA u)) (σ : CS) (w : Int32) (hI : Inv σ) (hg : sGr σ = 1) (hb9 : sBc σ < 2147483647) : Cv l D cA (rW ad cA) A yX5_dropTop cX5_dropTop 3 1 21 [.ref (ad 0), .int w] σ (fun u => u = da w σ) := by
  obtain ⟨k, hk, ek⟩ := hI.gp (i := 0) (by omega)
  have hkc := hI.kc
  have h := c_X5_dropTop l D cA ad A hDD σ w 0 k hg (by omega) (by omega) ek hb9
  rw [d_one hg ek (by omega)] at h
  exact h
set_option maxHeartbeats 4000000 in
set_option maxRecDepth 100000 in
theorem c_X5_rounds (l : Launch) (D : va_G) (cA : ClassId) (ad : Nat → Nat) (A : Nat → Prop) (hDD : ∀ u, va_D A (rW ad cA u)) (σ : CS) (a mm n0 : Int32) (hI : Inv σ) (hg : sGr σ = 0) (hb9 : sBc σ ≤ 1000000000) : Ct l D cA (rW ad cA) A yX5_rounds cX5_rounds 7 (some .int) 6 128 [.ref (ad 0), .int a, .int mm, .int n0] σ (fun r u => r = (f_rounds σ a mm n0).1 ∧ u = (f_rounds σ a mm n0).2) := by
  refine Ct.of (by decide) (Nat.le_of_ble_eq_true rfl) ?_
  intro p e s m below meth c ls S0 hr hlocks hK hP hS hl
  obtain ⟨hx, hb, hml, hown, hts⟩ := id S0
  have hl : lv_has ls 7 [(0, .ref (ad 0)), (1, .int a), (2, .int mm), (3, .int n0)] := hl
  have hkc := hI.kc
  have hvc := hI.vc
  have hgc := hI.gr
  have htc := hI.tc
  rcases hrw : row σ a mm with _ | q
  · skip
    refine lv_aload_n hx hb dX5_rounds_0 rfl (lv_at hl 0 rfl) ?_
    refine lv_iload_n hx hb dX5_rounds_1 rfl (lv_at hl 1 rfl) ?_
    refine lv_iload_n hx hb dX5_rounds_2 rfl (lv_at hl 2 rfl) ?_
    refine cl_i (rest := []) (c_X5_areThere l D cA ad A hDD σ a mm hI) ⟨hx, hb, hml, hown, hts⟩ hK hP hS kv_X5_114 ⟨Nat.le_of_ble_eq_true rfl, Nat.le_of_ble_eq_true rfl⟩ ⟨Nat.zero_le _, Nat.zero_le _⟩ 0 rfl rfl rfl hl.1 rfl (Nat.le_of_ble_eq_true rfl) (fun q h => h) dX5_rounds_3 (fun r u H locs hw hP hS _ => ?_)
    rw [hw.2] at hP
    refine tp_i (z := (bz ((row σ a mm).isSome = true))) hw.1 ?_
    refine tp_i (z := 0) (bz_0 (isS_0 hrw)) ?_
    refine lv_if_eq (tgt := 20) hx hb dX5_rounds_6 (by decide) (fun _ => ?_) (fun c9 => absurd (by decide) c9)
    refine lv_bipush (v := (-2)) hx hb dX5_rounds_20 (by decide) ?_
    exact rt_i (v := (-2)) (u := σ) hx hb hr hlocks hS hP (pr2 (rounds_b hrw)) dX5_rounds_22
  · obtain ⟨i, k⟩ := q
    obtain ⟨rfl, rfl, hk1, hk2, hik⟩ := row_f hvc hrw
    refine lv_aload_n hx hb dX5_rounds_0 rfl (lv_at hl 0 rfl) ?_
    refine lv_iload_n hx hb dX5_rounds_1 rfl (lv_at hl 1 rfl) ?_
    refine lv_iload_n hx hb dX5_rounds_2 rfl (lv_at hl 2 rfl) ?_
    refine cl_i (rest := []) (c_X5_areThere l D cA ad A hDD σ (nI i) (nI k) hI) ⟨hx, hb, hml, hown, hts⟩ hK hP hS kv_X5_114 ⟨Nat.le_of_ble_eq_true rfl, Nat.le_of_ble_eq_true rfl⟩ ⟨Nat.zero_le _, Nat.zero_le _⟩ 0 rfl rfl rfl hl.1 rfl (Nat.le_of_ble_eq_true rfl) (fun q h => h) dX5_rounds_3 (fun r u H locs hw hP hS _ => ?_)
    rw [hw.2] at hP
    refine tp_i (z := (bz ((row σ (nI i) (nI k)).isSome = true))) hw.1 ?_
    refine tp_i (z := 1) (bz_1 (isS_1 hrw)) ?_
    refine lv_if_eq (tgt := 20) hx hb dX5_rounds_6 (by decide) (fun c9 => absurd c9 (by decide)) (fun _ => ?_)
    by_cases hn : 1 ≤ n0 ∧ n0 ≤ 12
    · obtain ⟨n, hn1, hn2, rfl⟩ := rng (lo := 1) (hi := 12) (by decide) (by decide) hn
      have loop : ∀ (f v less : Nat) (τ : CS) (H : Heap) (locs : List Loc) (ls : Array Slot), v + f = i + k → less < n → Inv τ → sGr τ = 0 → sVc τ = sVc σ → sBc τ + 2 * f ≤ 1000001000 → rl n f v less τ = rl n k i 0 σ → va_P D vwCl (rW ad cA τ) H → va_S A s.heap H locs → lv_has ls 7 [(5, .int (nI v)), (4, .int (nI less)), (0, .ref (ad 0)), (1, .int (nI i)), (2, .int (nI k)), (3, .int (nI n))] → W p l e { frames := 6, cells := 0, slots := 0, locals := 128 } s m ([.ref (ad 0), .int (nI i), .int (nI k), .int (nI n)] : List Value).toArray below meth c H locs 0 0 (MQ below (va_Qi (fun r u => r = (f_rounds σ (nI i) (nI k) (nI n)).1 ∧ u = (f_rounds σ (nI i) (nI k) (nI n)).2) (fun u t => va_P D vwCl (rW ad cA u) t.heap) A) ([.ref (ad 0), .int (nI i), .int (nI k), .int (nI n)] : List Value).toArray s 0 0 A) (F0 m 29 ls []) := by
        intro f
        induction f with
        | zero =>
          intro v less τ H locs ls hvf hln hIt hgt hvt hbt hE hP hS hl
          refine lv_iload hx hb dX5_rounds_29 (lv_at hl 0 rfl) ?_
          refine lv_iload_n hx hb dX5_rounds_31 rfl (lv_at hl 3 rfl) ?_
          refine lv_iload_n hx hb dX5_rounds_32 rfl (lv_at hl 4 rfl) ?_
          refine lv_iadd hx hb dX5_rounds_33 ?_
          refine tp_i (z := (nI (i + k))) (nI_add _ _) ?_
          refine lv_icmp_ge (tgt := 129) hx hb dX5_rounds_34 (by decide) (fun _ => ?_) (fun c9 => absurd (nI_le (by omega) (by omega)) c9)
          refine lv_iload hx hb dX5_rounds_129 (lv_at hl 1 rfl) ?_
          exact rt_i (v := (nI less)) (u := τ) hx hb hr hlocks hS hP ((by rw [rounds_g hrw hn1 hn2, ← hE]; exact ⟨rfl, rfl⟩)) dX5_rounds_131
        | succ f ih =>
          intro v less τ H locs ls hvf hln hIt hgt hvt hbt hE hP hS hl
          have hv2 : v < sVc τ := by omega
          have hvt12 := hIt.vc
          have s1 := th_st (h := 0) hIt (hIt.lf hv2) (by omega)
          refine lv_iload hx hb dX5_rounds_29 (lv_at hl 0 rfl) ?_
          refine lv_iload_n hx hb dX5_rounds_31 rfl (lv_at hl 3 rfl) ?_
          refine lv_iload_n hx hb dX5_rounds_32 rfl (lv_at hl 4 rfl) ?_
          refine lv_iadd hx hb dX5_rounds_33 ?_
          refine tp_i (z := (nI (i + k))) (nI_add _ _) ?_
          refine lv_icmp_ge (tgt := 129) hx hb dX5_rounds_34 (by decide) (fun c9 => absurd c9 (nI_ge (by omega) (by omega))) (fun _ => ?_)
          refine lv_aload_n hx hb dX5_rounds_37 rfl (lv_at hl 2 rfl) ?_
          refine lv_iload hx hb dX5_rounds_38 (lv_at hl 0 rfl) ?_
          refine lv_iconst (v := 0) hx hb dX5_rounds_40 (by decide) ?_
          refine cl_i (rest := []) (c_X5_turnHand0 l D cA ad A hDD τ v (sLf τ v) rfl (hIt.lf hv2) hIt hv2 (by omega) (by omega)) ⟨hx, hb, hml, hown, hts⟩ hK hP hS kv_X5_99 ⟨Nat.le_of_ble_eq_true rfl, Nat.le_of_ble_eq_true rfl⟩ ⟨Nat.zero_le _, Nat.zero_le _⟩ 0 rfl rfl rfl hl.1 rfl (Nat.le_of_ble_eq_true rfl) (fun q h => h) dX5_rounds_41 (fun r u H locs hw hP hS _ => ?_)
          rw [hw.2] at hP
          refine tp_i (z := (thr (th τ (sLf τ v) 0).1)) hw.1 ?_
          rcases th_012 τ (sLf τ v) 0 with q | q | q
          · rw [show thu (th τ (sLf τ v) 0) = (th τ (sLf τ v) 0).2 from by unfold thu; rw [if_neg (by rw [q]; decide)]] at hP
            obtain ⟨u1, hu1⟩ : ∃ z, z = (th τ (sLf τ v) 0).2 := ⟨_, rfl⟩
            rw [← hu1] at hP
            rw [← hu1] at s1
            have b1 := s1.2.2.2.2
            have hv3 : v < sVc u1 := by rw [s1.2.1]; exact hv2
            have hv312 := s1.1.vc
            have g1 : sGr u1 = 1 := by rw [hu1, th_gr0 q, hgt]
            refine tp_i (z := 0) (by rw [q]; rfl) ?_
            refine lv_istore (lv' := [(6, .int 0), (5, .int (nI v)), (4, .int (nI less)), (0, .ref (ad 0)), (1, .int (nI i)), (2, .int (nI k)), (3, .int (nI n))]) hx hb dX5_rounds_44 hl (by decide) rfl (fun ls hl => ?_)
            refine lv_iload hx hb dX5_rounds_46 (lv_at hl 0 rfl) ?_
            refine lv_bipush (v := (-7)) hx hb dX5_rounds_48 (by decide) ?_
            refine lv_icmp_ne (tgt := 56) hx hb dX5_rounds_50 (by decide) (fun _ => ?_) (fun c9 => absurd c9 (by decide))
            refine lv_iload hx hb dX5_rounds_56 (lv_at hl 0 rfl) ?_
            refine lv_bipush (v := (-4)) hx hb dX5_rounds_58 (by decide) ?_
            refine lv_icmp_ne (tgt := 66) hx hb dX5_rounds_60 (by decide) (fun _ => ?_) (fun c9 => absurd c9 (by decide))
            refine lv_aload_n hx hb dX5_rounds_66 rfl (lv_at hl 3 rfl) ?_
            refine va_get (D := D) (ci := 5) (v := .ref (ad 5)) (C := RX5) (T := TX5) (N := 20) hx hb hts in_X5 hown hK hP 0 rfl rfl 5 (by decide) (hts _ kf_X5_22) (fun _ h9 => h9) rfl dX5_rounds_67 ?_
            refine lv_iload hx hb dX5_rounds_70 (lv_at hl 1 rfl) ?_
            refine ar_g hx hb hK hP 5 rfl (by omega) (by decide) dX5_rounds_72 ?_
            refine lv_if_ne (tgt := 86) hx hb dX5_rounds_73 (by decide) (fun c65 => ?_) (fun c65 => ?_)
            · refine lv_aload_n hx hb dX5_rounds_86 rfl (lv_at hl 3 rfl) ?_
              refine va_get (D := D) (ci := 5) (v := .ref (ad 5)) (C := RX5) (T := TX5) (N := 20) hx hb hts in_X5 hown hK hP 0 rfl rfl 5 (by decide) (hts _ kf_X5_22) (fun _ h9 => h9) rfl dX5_rounds_87 ?_
              refine lv_iload hx hb dX5_rounds_90 (lv_at hl 1 rfl) ?_
              refine lv_dup2_11 hx hb dX5_rounds_92 rfl rfl ?_
              refine ar_g hx hb hK hP 5 rfl (by omega) (by decide) dX5_rounds_93 ?_
              refine lv_iconst (v := 1) hx hb dX5_rounds_94 (by decide) ?_
              refine lv_isub hx hb dX5_rounds_95 ?_
              refine ar_p hx hb hK hP (hDD _) hS 5 rfl (x := ((sSm u1 v) - 1)) (by omega) (by decide) dX5_rounds_96 (fun H locs hP hS => ?_)
              have hP : va_P D vwCl (rW ad cA (u1.1, ((sLim u1), (upd (sSm u1) v ((sSm u1 v) - 1)), (sNx u1), (sLf u1), (sRt u1), (sVc u1)), u1.2.2.1, u1.2.2.2.1, u1.2.2.2.2)) H := hP
              refine lv_iinc (v := (nI (less + 1))) (lv' := [(4, .int (nI (less + 1))), (6, .int 0), (5, .int (nI v)), (0, .ref (ad 0)), (1, .int (nI i)), (2, .int (nI k)), (3, .int (nI n))]) hx hb dX5_rounds_97 hl (k := 2) rfl (nI_1 _) (by decide) rfl (fun ls hl => ?_)
              refine lv_iload hx hb dX5_rounds_100 (lv_at hl 0 rfl) ?_
              refine lv_iload_n hx hb dX5_rounds_102 rfl (lv_at hl 6 rfl) ?_
              refine lv_icmp_ne (tgt := 116) hx hb dX5_rounds_103 (by decide) (fun c101 => ?_) (fun c101 => ?_)
              · have hne : ¬ less + 1 = n := fun q => c101 (by rw [q])
                refine lv_aload_n hx hb dX5_rounds_116 rfl (lv_at hl 3 rfl) ?_
                refine lv_sipush (v := 200) hx hb dX5_rounds_117 (by decide) ?_
                refine cl_v (rest := []) (c_X5_dropTop1 l D cA ad A hDD (u1.1, ((sLim u1), (upd (sSm u1) v ((sSm u1 v) - 1)), (sNx u1), (sLf u1), (sRt u1), (sVc u1)), u1.2.2.1, u1.2.2.2.1, u1.2.2.2.2) 200 (dec_inv s1.1 hv3 c65) g1 (by show sBc u1 < 2147483647; omega)) ⟨hx, hb, hml, hown, hts⟩ hK hP hS kv_X5_83 ⟨Nat.le_of_ble_eq_true rfl, Nat.le_of_ble_eq_true rfl⟩ ⟨Nat.zero_le _, Nat.zero_le _⟩ 0 rfl rfl rfl hl.1 rfl (Nat.le_of_ble_eq_true rfl) (fun q h => h) dX5_rounds_120 (fun u H locs hw hP hS _ => ?_)
                rw [hw] at hP
                refine lv_iinc (v := (nI (v + 1))) (lv' := [(5, .int (nI (v + 1))), (4, .int (nI (less + 1))), (6, .int 0), (0, .ref (ad 0)), (1, .int (nI i)), (2, .int (nI k)), (3, .int (nI n))]) hx hb dX5_rounds_123 hl (k := 2) rfl (nI_1 _) (by decide) rfl (fun ls hl => ?_)
                refine lv_goto (tgt := 29) hx hb dX5_rounds_126 (by decide) ?_
                exact ih (v + 1) (less + 1) (da 200 (ssm u1 (upd (sSm u1) v (sSm u1 v - 1)))) _ _ ls (by omega) (by omega) (Stq.da (w := 200) (Stq.ssm s1 (dec_inv s1.1 hv3 c65))).1 rfl ((Stq.da (w := 200) (Stq.ssm s1 (dec_inv s1.1 hv3 c65))).2.1.trans hvt) (by have h7 := (Stq.da (w := 200) (Stq.ssm s1 (dec_inv s1.1 hv3 c65))).2.2.2.2; have h8 : sGr (da 200 (ssm u1 (upd (sSm u1) v (sSm u1 v - 1)))) = 0 := rfl; omega) ((rl_4 hu1 q c65 hne).symm.trans hE) hP hS (lv_sub hl [0, 1, 3, 4, 5, 6] rfl)
              · have heq : less + 1 = n := nI_inj (by omega) (by omega) c101
                refine lv_aload_n hx hb dX5_rounds_106 rfl (lv_at hl 3 rfl) ?_
                refine lv_sipush (v := 400) hx hb dX5_rounds_107 (by decide) ?_
                refine cl_v (rest := []) (c_X5_dropTop1 l D cA ad A hDD (u1.1, ((sLim u1), (upd (sSm u1) v ((sSm u1 v) - 1)), (sNx u1), (sLf u1), (sRt u1), (sVc u1)), u1.2.2.1, u1.2.2.2.1, u1.2.2.2.2) 400 (dec_inv s1.1 hv3 c65) g1 (by show sBc u1 < 2147483647; omega)) ⟨hx, hb, hml, hown, hts⟩ hK hP hS kv_X5_83 ⟨Nat.le_of_ble_eq_true rfl, Nat.le_of_ble_eq_true rfl⟩ ⟨Nat.zero_le _, Nat.zero_le _⟩ 0 rfl rfl rfl hl.1 rfl (Nat.le_of_ble_eq_true rfl) (fun q h => h) dX5_rounds_110 (fun u H locs hw hP hS _ => ?_)
                rw [hw] at hP
                refine lv_iload hx hb dX5_rounds_113 (lv_at hl 0 rfl) ?_
                exact rt_i (v := (nI (less + 1))) (u := (da 400 (u1.1, ((sLim u1), (upd (sSm u1) v ((sSm u1 v) - 1)), (sNx u1), (sLf u1), (sRt u1), (sVc u1)), u1.2.2.1, u1.2.2.2.1, u1.2.2.2.2))) hx hb hr hlocks hS hP ((by rw [rounds_g hrw hn1 hn2, ← hE, rl_3 hu1 q c65 heq]; exact ⟨rfl, rfl⟩)) dX5_rounds_115
            · refine lv_aload_n hx hb dX5_rounds_76 rfl (lv_at hl 3 rfl) ?_
              refine lv_sipush (v := 500) hx hb dX5_rounds_77 (by decide) ?_
              refine cl_v (rest := []) (c_X5_dropTop1 l D cA ad A hDD u1 500 s1.1 g1 (by omega)) ⟨hx, hb, hml, hown, hts⟩ hK hP hS kv_X5_83 ⟨Nat.le_of_ble_eq_true rfl, Nat.le_of_ble_eq_true rfl⟩ ⟨Nat.zero_le _, Nat.zero_le _⟩ 0 rfl rfl rfl hl.1 rfl (Nat.le_of_ble_eq_true rfl) (fun q h => h) dX5_rounds_80 (fun u H locs hw hP hS _ => ?_)
              rw [hw] at hP
              refine lv_goto (tgt := 123) hx hb dX5_rounds_83 (by decide) ?_
              refine lv_iinc (v := (nI (v + 1))) (lv' := [(5, .int (nI (v + 1))), (6, .int 0), (4, .int (nI less)), (0, .ref (ad 0)), (1, .int (nI i)), (2, .int (nI k)), (3, .int (nI n))]) hx hb dX5_rounds_123 hl (k := 1) rfl (nI_1 _) (by decide) rfl (fun ls hl => ?_)
              refine lv_goto (tgt := 29) hx hb dX5_rounds_126 (by decide) ?_
              exact ih (v + 1) less (da 500 u1) _ _ ls (by omega) (by omega) (Stq.da (w := 500) s1).1 rfl ((Stq.da (w := 500) s1).2.1.trans hvt) (by have h7 := (Stq.da (w := 500) s1).2.2.2.2; have h8 : sGr (da 500 u1) = 0 := rfl; omega) ((rl_2 hu1 q c65).symm.trans hE) hP hS (lv_sub hl [0, 2, 3, 4, 5, 6] rfl)
          · rw [show thu (th τ (sLf τ v) 0) = (th τ (sLf τ v) 0).2 from by unfold thu; rw [if_neg (by rw [q]; decide)]] at hP
            obtain ⟨u1, hu1⟩ : ∃ z, z = (th τ (sLf τ v) 0).2 := ⟨_, rfl⟩
            rw [← hu1] at hP
            rw [← hu1] at s1
            have b1 := s1.2.2.2.2
            have hv3 : v < sVc u1 := by rw [s1.2.1]; exact hv2
            have hv312 := s1.1.vc
            have g1 : sGr u1 = 0 := by rw [hu1, th_gr1 (by rw [q]; decide), hgt]
            refine tp_i (z := (-4)) (by rw [q]; rfl) ?_
            refine lv_istore (lv' := [(6, .int (-4)), (5, .int (nI v)), (4, .int (nI less)), (0, .ref (ad 0)), (1, .int (nI i)), (2, .int (nI k)), (3, .int (nI n))]) hx hb dX5_rounds_44 hl (by decide) rfl (fun ls hl => ?_)
            refine lv_iload hx hb dX5_rounds_46 (lv_at hl 0 rfl) ?_
            refine lv_bipush (v := (-7)) hx hb dX5_rounds_48 (by decide) ?_
            refine lv_icmp_ne (tgt := 56) hx hb dX5_rounds_50 (by decide) (fun _ => ?_) (fun c9 => absurd c9 (by decide))
            refine lv_iload hx hb dX5_rounds_56 (lv_at hl 0 rfl) ?_
            refine lv_bipush (v := (-4)) hx hb dX5_rounds_58 (by decide) ?_
            refine lv_icmp_ne (tgt := 66) hx hb dX5_rounds_60 (by decide) (fun c9 => absurd (by decide) c9) (fun _ => ?_)
            refine lv_goto (tgt := 123) hx hb dX5_rounds_63 (by decide) ?_
            refine lv_iinc (v := (nI (v + 1))) (lv' := [(5, .int (nI (v + 1))), (6, .int (-4)), (4, .int (nI less)), (0, .ref (ad 0)), (1, .int (nI i)), (2, .int (nI k)), (3, .int (nI n))]) hx hb dX5_rounds_123 hl (k := 1) rfl (nI_1 _) (by decide) rfl (fun ls hl => ?_)
            refine lv_goto (tgt := 29) hx hb dX5_rounds_126 (by decide) ?_
            exact ih (v + 1) less u1 _ _ ls (by omega) (by omega) s1.1 g1 (s1.2.1.trans hvt) (by have h7 := s1.2.2.2.2; have h8 : sGr u1 = 0 := g1; omega) ((rl_1 hu1 q).symm.trans hE) hP hS (lv_sub hl [0, 2, 3, 4, 5, 6] rfl)
          · exact absurd q (th_nojam hIt (hIt.lf hv2) hgt)
      refine lv_iload_n hx hb dX5_rounds_9 rfl (lv_at hl 3 rfl) ?_
      refine lv_iconst (v := 1) hx hb dX5_rounds_10 (by decide) ?_
      refine lv_icmp_lt (tgt := 20) hx hb dX5_rounds_11 (by decide) (fun c9 => absurd c9 (i_nlt.mpr hn.1)) (fun _ => ?_)
      refine lv_iload_n hx hb dX5_rounds_14 rfl (lv_at hl 3 rfl) ?_
      refine lv_bipush (v := 12) hx hb dX5_rounds_15 (by decide) ?_
      refine lv_icmp_le (tgt := 23) hx hb dX5_rounds_17 (by decide) (fun _ => ?_) (fun c9 => absurd (hn.2) c9)
      refine lv_iconst (v := 0) hx hb dX5_rounds_23 (by decide) ?_
      refine lv_istore (lv' := [(4, .int 0), (0, .ref (ad 0)), (1, .int (nI i)), (2, .int (nI k)), (3, .int (nI n))]) hx hb dX5_rounds_24 hl (by decide) rfl (fun ls hl => ?_)
      refine lv_iload_n hx hb dX5_rounds_26 rfl (lv_at hl 2 rfl) ?_
      refine lv_istore (lv' := [(5, .int (nI i)), (4, .int 0), (0, .ref (ad 0)), (1, .int (nI i)), (2, .int (nI k)), (3, .int (nI n))]) hx hb dX5_rounds_27 hl (by decide) rfl (fun ls hl => ?_)
      exact loop k i 0 σ _ _ ls rfl (by omega) hI hg rfl (by omega) rfl hP hS (lv_sub hl [0, 1, 2, 3, 4, 5] rfl)
    · skip
      refine lv_iload_n hx hb dX5_rounds_9 rfl (lv_at hl 3 rfl) ?_
      refine lv_iconst (v := 1) hx hb dX5_rounds_10 (by decide) ?_
      refine lv_icmp_lt (tgt := 20) hx hb dX5_rounds_11 (by decide) (fun c11 => ?_) (fun c11 => ?_)
      · refine lv_bipush (v := (-2)) hx hb dX5_rounds_20 (by decide) ?_
        exact rt_i (v := (-2)) (u := σ) hx hb hr hlocks hS hP (pr2 (rounds_b2 hrw hn)) dX5_rounds_22
      · refine lv_iload_n hx hb dX5_rounds_14 rfl (lv_at hl 3 rfl) ?_
        refine lv_bipush (v := 12) hx hb dX5_rounds_15 (by decide) ?_
        refine lv_icmp_le (tgt := 23) hx hb dX5_rounds_17 (by decide) (fun c9 => absurd c9 (fun q => hn ⟨i_nlt.mp c11, q⟩)) (fun _ => ?_)
        refine lv_bipush (v := (-2)) hx hb dX5_rounds_20 (by decide) ?_
        exact rt_i (v := (-2)) (u := σ) hx hb hr hlocks hS hP (pr2 (rounds_b2 hrw hn)) dX5_rounds_22
end
