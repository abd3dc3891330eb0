-- ===== PART A: goes FIRST, ahead of the names: the tables' words, and 'selects' of the private methods out of them =====
/-- a private method of a class that the tables say can be made, by its rows of tables_1 -/
def lw_okq (q : MethodName × Nat) : Prop := (q.1.cls ≠ "java/lang/invoke/MethodHandle" ∧ q.1.cls ≠ "java/lang/invoke/VarHandle") ∧ Cond.instantiable q.1.cls q.2 ∈ tables_1 ∧ Cond.privateMethod q.1 ∈ tables_1 ∧ Cond.instanceMethod q.1 ∈ tables_1
theorem lw_p0 : lw_okq (⟨"VaultHands", "turnBoth", "(I)I"⟩, 7) := ⟨⟨by decide +kernel, by decide +kernel⟩, List.mem_of_getElem? (i := 9) (by decide +kernel), List.mem_of_getElem? (i := 191) (by decide +kernel), List.mem_of_getElem? (i := 192) (by decide +kernel)⟩
theorem lw_p1 : lw_okq (⟨"VaultHands", "turnHand", "(II)I"⟩, 7) := ⟨⟨by decide +kernel, by decide +kernel⟩, List.mem_of_getElem? (i := 9) (by decide +kernel), List.mem_of_getElem? (i := 195) (by decide +kernel), List.mem_of_getElem? (i := 196) (by decide +kernel)⟩
theorem lw_p2 : lw_okq (⟨"VaultHands", "turnKey", "(I)I"⟩, 7) := ⟨⟨by decide +kernel, by decide +kernel⟩, List.mem_of_getElem? (i := 9) (by decide +kernel), List.mem_of_getElem? (i := 203) (by decide +kernel), List.mem_of_getElem? (i := 204) (by decide +kernel)⟩
theorem lw_p3 : lw_okq (⟨"VaultHands", "raiseAlarm", "(I)I"⟩, 7) := ⟨⟨by decide +kernel, by decide +kernel⟩, List.mem_of_getElem? (i := 9) (by decide +kernel), List.mem_of_getElem? (i := 207) (by decide +kernel), List.mem_of_getElem? (i := 208) (by decide +kernel)⟩
theorem lw_p4 : lw_okq (⟨"VaultHands", "letGo", "(II)I"⟩, 7) := ⟨⟨by decide +kernel, by decide +kernel⟩, List.mem_of_getElem? (i := 9) (by decide +kernel), List.mem_of_getElem? (i := 211) (by decide +kernel), List.mem_of_getElem? (i := 212) (by decide +kernel)⟩
theorem lw_p5 : lw_okq (⟨"VaultHands", "hasRow", "(II)Z"⟩, 7) := ⟨⟨by decide +kernel, by decide +kernel⟩, List.mem_of_getElem? (i := 9) (by decide +kernel), List.mem_of_getElem? (i := 243) (by decide +kernel), List.mem_of_getElem? (i := 244) (by decide +kernel)⟩
theorem lw_p6 : lw_okq (⟨"VaultHands", "isOrder", "(IIII)Z"⟩, 7) := ⟨⟨by decide +kernel, by decide +kernel⟩, List.mem_of_getElem? (i := 9) (by decide +kernel), List.mem_of_getElem? (i := 262) (by decide +kernel), List.mem_of_getElem? (i := 263) (by decide +kernel)⟩
theorem lw_p7 : lw_okq (⟨"VaultHands", "doOrder", "(I)Z"⟩, 7) := ⟨⟨by decide +kernel, by decide +kernel⟩, List.mem_of_getElem? (i := 9) (by decide +kernel), List.mem_of_getElem? (i := 274) (by decide +kernel), List.mem_of_getElem? (i := 275) (by decide +kernel)⟩
theorem lw_p8 : lw_okq (⟨"VaultHandsModel", "isVault", "(I)Z"⟩, 20) := ⟨⟨by decide +kernel, by decide +kernel⟩, List.mem_of_getElem? (i := 318) (by decide +kernel), List.mem_of_getElem? (i := 401) (by decide +kernel), List.mem_of_getElem? (i := 402) (by decide +kernel)⟩
theorem lw_p9 : lw_okq (⟨"VaultHandsModel", "isKey", "(I)Z"⟩, 20) := ⟨⟨by decide +kernel, by decide +kernel⟩, List.mem_of_getElem? (i := 318) (by decide +kernel), List.mem_of_getElem? (i := 408) (by decide +kernel), List.mem_of_getElem? (i := 409) (by decide +kernel)⟩
theorem lw_p10 : lw_okq (⟨"VaultHandsModel", "turnBoth", "(I)I"⟩, 20) := ⟨⟨by decide +kernel, by decide +kernel⟩, List.mem_of_getElem? (i := 318) (by decide +kernel), List.mem_of_getElem? (i := 420) (by decide +kernel), List.mem_of_getElem? (i := 421) (by decide +kernel)⟩
theorem lw_p11 : lw_okq (⟨"VaultHandsModel", "turnHand", "(II)I"⟩, 20) := ⟨⟨by decide +kernel, by decide +kernel⟩, List.mem_of_getElem? (i := 318) (by decide +kernel), List.mem_of_getElem? (i := 424) (by decide +kernel), List.mem_of_getElem? (i := 425) (by decide +kernel)⟩
theorem lw_p12 : lw_okq (⟨"VaultHandsModel", "enter", "(I)V"⟩, 20) := ⟨⟨by decide +kernel, by decide +kernel⟩, List.mem_of_getElem? (i := 318) (by decide +kernel), List.mem_of_getElem? (i := 428) (by decide +kernel), List.mem_of_getElem? (i := 429) (by decide +kernel)⟩
theorem lw_p13 : lw_okq (⟨"VaultHandsModel", "turnKey", "(I)I"⟩, 20) := ⟨⟨by decide +kernel, by decide +kernel⟩, List.mem_of_getElem? (i := 318) (by decide +kernel), List.mem_of_getElem? (i := 432) (by decide +kernel), List.mem_of_getElem? (i := 433) (by decide +kernel)⟩
theorem lw_p14 : lw_okq (⟨"VaultHandsModel", "alarm", "()V"⟩, 20) := ⟨⟨by decide +kernel, by decide +kernel⟩, List.mem_of_getElem? (i := 318) (by decide +kernel), List.mem_of_getElem? (i := 436) (by decide +kernel), List.mem_of_getElem? (i := 437) (by decide +kernel)⟩
theorem lw_p15 : lw_okq (⟨"VaultHandsModel", "dropAll", "(I)V"⟩, 20) := ⟨⟨by decide +kernel, by decide +kernel⟩, List.mem_of_getElem? (i := 318) (by decide +kernel), List.mem_of_getElem? (i := 440) (by decide +kernel), List.mem_of_getElem? (i := 441) (by decide +kernel)⟩
def lw_privs_1 : List (MethodName × Nat) := [(⟨"VaultHands", "turnBoth", "(I)I"⟩, 7), (⟨"VaultHands", "turnHand", "(II)I"⟩, 7), (⟨"VaultHands", "turnKey", "(I)I"⟩, 7), (⟨"VaultHands", "raiseAlarm", "(I)I"⟩, 7), (⟨"VaultHands", "letGo", "(II)I"⟩, 7), (⟨"VaultHands", "hasRow", "(II)Z"⟩, 7), (⟨"VaultHands", "isOrder", "(IIII)Z"⟩, 7), (⟨"VaultHands", "doOrder", "(I)Z"⟩, 7), (⟨"VaultHandsModel", "isVault", "(I)Z"⟩, 20), (⟨"VaultHandsModel", "isKey", "(I)Z"⟩, 20), (⟨"VaultHandsModel", "turnBoth", "(I)I"⟩, 20), (⟨"VaultHandsModel", "turnHand", "(II)I"⟩, 20), (⟨"VaultHandsModel", "enter", "(I)V"⟩, 20), (⟨"VaultHandsModel", "turnKey", "(I)I"⟩, 20), (⟨"VaultHandsModel", "alarm", "()V"⟩, 20), (⟨"VaultHandsModel", "dropAll", "(I)V"⟩, 20)]
theorem lw_r1 : ∀ q ∈ lw_privs_1, lw_okq q := List.forall_mem_cons.mpr ⟨lw_p0, List.forall_mem_cons.mpr ⟨lw_p1, List.forall_mem_cons.mpr ⟨lw_p2, List.forall_mem_cons.mpr ⟨lw_p3, List.forall_mem_cons.mpr ⟨lw_p4, List.forall_mem_cons.mpr ⟨lw_p5, List.forall_mem_cons.mpr ⟨lw_p6, List.forall_mem_cons.mpr ⟨lw_p7, List.forall_mem_cons.mpr ⟨lw_p8, List.forall_mem_cons.mpr ⟨lw_p9, List.forall_mem_cons.mpr ⟨lw_p10, List.forall_mem_cons.mpr ⟨lw_p11, List.forall_mem_cons.mpr ⟨lw_p12, List.forall_mem_cons.mpr ⟨lw_p13, List.forall_mem_cons.mpr ⟨lw_p14, List.forall_mem_cons.mpr ⟨lw_p15, fun _ h => absurd h List.not_mem_nil⟩⟩⟩⟩⟩⟩⟩⟩⟩⟩⟩⟩⟩⟩⟩⟩
theorem lw_p16 : lw_okq (⟨"VaultHandsModel", "dropTop", "(I)V"⟩, 20) := ⟨⟨by decide +kernel, by decide +kernel⟩, List.mem_of_getElem? (i := 318) (by decide +kernel), List.mem_of_getElem? (i := 444) (by decide +kernel), List.mem_of_getElem? (i := 445) (by decide +kernel)⟩
theorem lw_p17 : lw_okq (⟨"VaultHandsModel", "answered", "(I)I"⟩, 20) := ⟨⟨by decide +kernel, by decide +kernel⟩, List.mem_of_getElem? (i := 318) (by decide +kernel), List.mem_of_getElem? (i := 448) (by decide +kernel), List.mem_of_getElem? (i := 449) (by decide +kernel)⟩
theorem lw_p18 : lw_okq (⟨"VaultHandsModel", "ended", "(I)I"⟩, 20) := ⟨⟨by decide +kernel, by decide +kernel⟩, List.mem_of_getElem? (i := 318) (by decide +kernel), List.mem_of_getElem? (i := 452) (by decide +kernel), List.mem_of_getElem? (i := 453) (by decide +kernel)⟩
theorem lw_p19 : lw_okq (⟨"VaultHandsModel", "alarmed", "(I)I"⟩, 20) := ⟨⟨by decide +kernel, by decide +kernel⟩, List.mem_of_getElem? (i := 318) (by decide +kernel), List.mem_of_getElem? (i := 460) (by decide +kernel), List.mem_of_getElem? (i := 461) (by decide +kernel)⟩
theorem lw_p20 : lw_okq (⟨"VaultHandsModel", "areThere", "(II)Z"⟩, 20) := ⟨⟨by decide +kernel, by decide +kernel⟩, List.mem_of_getElem? (i := 318) (by decide +kernel), List.mem_of_getElem? (i := 484) (by decide +kernel), List.mem_of_getElem? (i := 485) (by decide +kernel)⟩
theorem lw_p21 : lw_okq (⟨"VaultHandsModel", "isOrder", "(IIII)Z"⟩, 20) := ⟨⟨by decide +kernel, by decide +kernel⟩, List.mem_of_getElem? (i := 318) (by decide +kernel), List.mem_of_getElem? (i := 500) (by decide +kernel), List.mem_of_getElem? (i := 501) (by decide +kernel)⟩
theorem lw_p22 : lw_okq (⟨"VaultHandsModel", "carriedOut", "(I)I"⟩, 20) := ⟨⟨by decide +kernel, by decide +kernel⟩, List.mem_of_getElem? (i := 318) (by decide +kernel), List.mem_of_getElem? (i := 508) (by decide +kernel), List.mem_of_getElem? (i := 509) (by decide +kernel)⟩
def lw_privs_2 : List (MethodName × Nat) := [(⟨"VaultHandsModel", "dropTop", "(I)V"⟩, 20), (⟨"VaultHandsModel", "answered", "(I)I"⟩, 20), (⟨"VaultHandsModel", "ended", "(I)I"⟩, 20), (⟨"VaultHandsModel", "alarmed", "(I)I"⟩, 20), (⟨"VaultHandsModel", "areThere", "(II)Z"⟩, 20), (⟨"VaultHandsModel", "isOrder", "(IIII)Z"⟩, 20), (⟨"VaultHandsModel", "carriedOut", "(I)I"⟩, 20)]
theorem lw_r2 : ∀ q ∈ lw_privs_2, lw_okq q := List.forall_mem_cons.mpr ⟨lw_p16, List.forall_mem_cons.mpr ⟨lw_p17, List.forall_mem_cons.mpr ⟨lw_p18, List.forall_mem_cons.mpr ⟨lw_p19, List.forall_mem_cons.mpr ⟨lw_p20, List.forall_mem_cons.mpr ⟨lw_p21, List.forall_mem_cons.mpr ⟨lw_p22, fun _ h => absurd h List.not_mem_nil⟩⟩⟩⟩⟩⟩⟩
def lw_privs : List (MethodName × Nat) := lw_privs_1 ++ (lw_privs_2)
def lw_tbl : List Cond := k2_sels lw_privs ++ tables_1
theorem lw_privs_ok : ∀ q ∈ lw_privs, lw_okq q := by
  show ∀ q ∈ lw_privs_1 ++ (lw_privs_2), lw_okq q
  exact List.forall_mem_append.mpr ⟨lw_r1, lw_r2⟩
-- names
def RX0 : String := "VaultHands$Book"
def TX0 : u_T := fun k => match k with
  | 0 => ("VaultHands$Book", "kept", "[I", true)
  | _ => ("VaultHands$Book", "count", "I", false)
def tyX0 : Nat → FieldType := fun k => match k with
  | 0 => .array .int
  | _ => .int
abbrev wsX00 : List Cond := u_ws RX0 TX0 2
theorem nmX0 : ∀ a, a < 2 → ∀ b, b < 2 → a ≠ b → (TX0 a).2.1 ≠ (TX0 b).2.1 := by decide +kernel
theorem tyX0_ok : ∀ k, k < 2 → parseFieldDescriptor (TX0 k).2.2.1 = some (tyX0 k) := by decide +kernel
abbrev cX0_init : ByteArray := prog_2_method_1_code
def yX0_init : MethodName := ⟨RX0, "<init>", "()V"⟩
abbrev cX0_write : ByteArray := prog_2_method_2_code
def yX0_write : MethodName := ⟨RX0, "write", "(I)V"⟩
abbrev cX0_read : ByteArray := prog_2_method_3_code
def yX0_read : MethodName := ⟨RX0, "read", "(I)I"⟩
def RX1 : String := "VaultHands$Keys"
def TX1 : u_T := fun k => match k with
  | 0 => ("VaultHands$Keys", "teeth", "[I", true)
  | 1 => ("VaultHands$Keys", "strains", "[I", true)
  | 2 => ("VaultHands$Keys", "wears", "[I", true)
  | 3 => ("VaultHands$Keys", "held", "[I", true)
  | _ => ("VaultHands$Keys", "count", "I", false)
def tyX1 : Nat → FieldType := fun k => match k with
  | 0 => .array .int
  | 1 => .array .int
  | 2 => .array .int
  | 3 => .array .int
  | _ => .int
abbrev wsX10 : List Cond := u_ws RX1 TX1 5
theorem nmX1 : ∀ a, a < 5 → ∀ b, b < 5 → a ≠ b → (TX1 a).2.1 ≠ (TX1 b).2.1 := by decide +kernel
theorem tyX1_ok : ∀ k, k < 5 → parseFieldDescriptor (TX1 k).2.2.1 = some (tyX1 k) := by decide +kernel
abbrev cX1_init : ByteArray := prog_3_method_1_code
def yX1_init : MethodName := ⟨RX1, "<init>", "()V"⟩
abbrev cX1_has : ByteArray := prog_3_method_2_code
def yX1_has : MethodName := ⟨RX1, "has", "(I)Z"⟩
abbrev cX1_add : ByteArray := prog_3_method_3_code
def yX1_add : MethodName := ⟨RX1, "add", "(II)I"⟩
def RX2 : String := "VaultHands$Tray"
def TX2 : u_T := fun k => match k with
  | 0 => ("VaultHands$Tray", "ops", "[I", true)
  | 1 => ("VaultHands$Tray", "firsts", "[I", true)
  | 2 => ("VaultHands$Tray", "seconds", "[I", true)
  | 3 => ("VaultHands$Tray", "amounts", "[I", true)
  | _ => ("VaultHands$Tray", "count", "I", false)
def tyX2 : Nat → FieldType := fun k => match k with
  | 0 => .array .int
  | 1 => .array .int
  | 2 => .array .int
  | 3 => .array .int
  | _ => .int
abbrev wsX20 : List Cond := u_ws RX2 TX2 5
theorem nmX2 : ∀ a, a < 5 → ∀ b, b < 5 → a ≠ b → (TX2 a).2.1 ≠ (TX2 b).2.1 := by decide +kernel
theorem tyX2_ok : ∀ k, k < 5 → parseFieldDescriptor (TX2 k).2.2.1 = some (tyX2 k) := by decide +kernel
abbrev cX2_init : ByteArray := prog_4_method_1_code
def yX2_init : MethodName := ⟨RX2, "<init>", "()V"⟩
abbrev cX2_add : ByteArray := prog_4_method_2_code
def yX2_add : MethodName := ⟨RX2, "add", "(IIII)I"⟩
def RX3 : String := "VaultHands$Vaults"
def TX3 : u_T := fun k => match k with
  | 0 => ("VaultHands$Vaults", "limits", "[I", true)
  | 1 => ("VaultHands$Vaults", "sums", "[I", true)
  | 2 => ("VaultHands$Vaults", "nexts", "[I", true)
  | 3 => ("VaultHands$Vaults", "lefts", "[I", true)
  | 4 => ("VaultHands$Vaults", "rights", "[I", true)
  | _ => ("VaultHands$Vaults", "count", "I", false)
def tyX3 : Nat → FieldType := fun k => match k with
  | 0 => .array .int
  | 1 => .array .int
  | 2 => .array .int
  | 3 => .array .int
  | 4 => .array .int
  | _ => .int
abbrev wsX30 : List Cond := u_ws RX3 TX3 6
theorem nmX3 : ∀ a, a < 6 → ∀ b, b < 6 → a ≠ b → (TX3 a).2.1 ≠ (TX3 b).2.1 := by decide +kernel
theorem tyX3_ok : ∀ k, k < 6 → parseFieldDescriptor (TX3 k).2.2.1 = some (tyX3 k) := by decide +kernel
abbrev cX3_init : ByteArray := prog_5_method_1_code
def yX3_init : MethodName := ⟨RX3, "<init>", "()V"⟩
abbrev cX3_has : ByteArray := prog_5_method_2_code
def yX3_has : MethodName := ⟨RX3, "has", "(I)Z"⟩
abbrev cX3_hasHand : ByteArray := prog_5_method_3_code
def yX3_hasHand : MethodName := ⟨RX3, "hasHand", "(II)Z"⟩
abbrev cX3_add : ByteArray := prog_5_method_4_code
def yX3_add : MethodName := ⟨RX3, "add", "(I)I"⟩
abbrev cX3_keyAt : ByteArray := prog_5_method_5_code
def yX3_keyAt : MethodName := ⟨RX3, "keyAt", "(II)I"⟩
abbrev cX3_setKeyAt : ByteArray := prog_5_method_6_code
def yX3_setKeyAt : MethodName := ⟨RX3, "setKeyAt", "(III)V"⟩
abbrev cX3_isTooMuch : ByteArray := prog_5_method_7_code
def yX3_isTooMuch : MethodName := ⟨RX3, "isTooMuch", "(II)Z"⟩
def RX4 : String := "VaultHands"
def TX4 : u_T := fun k => match k with
  | 0 => ("VaultHands", "keys", "LVaultHands$Keys;", true)
  | 1 => ("VaultHands", "vaults", "LVaultHands$Vaults;", true)
  | 2 => ("VaultHands", "book", "LVaultHands$Book;", true)
  | 3 => ("VaultHands", "tray", "LVaultHands$Tray;", true)
  | 4 => ("VaultHands", "grip", "[I", true)
  | 5 => ("VaultHands", "gripped", "I", false)
  | _ => ("VaultHands", "alarmCount", "I", false)
def tyX4 : Nat → FieldType := fun k => match k with
  | 0 => .object "VaultHands$Keys"
  | 1 => .object "VaultHands$Vaults"
  | 2 => .object "VaultHands$Book"
  | 3 => .object "VaultHands$Tray"
  | 4 => .array .int
  | 5 => .int
  | _ => .int
abbrev wsX40 : List Cond := u_ws RX4 TX4 7
theorem nmX4 : ∀ a, a < 7 → ∀ b, b < 7 → a ≠ b → (TX4 a).2.1 ≠ (TX4 b).2.1 := by decide +kernel
theorem tyX4_ok : ∀ k, k < 7 → parseFieldDescriptor (TX4 k).2.2.1 = some (tyX4 k) := by decide +kernel
abbrev cX4_init : ByteArray := prog_1_method_1_code
def yX4_init : MethodName := ⟨RX4, "<init>", "()V"⟩
abbrev cX4_key : ByteArray := prog_1_method_2_code
def yX4_key : MethodName := ⟨RX4, "key", "(IZ)I"⟩
abbrev cX4_vault : ByteArray := prog_1_method_3_code
def yX4_vault : MethodName := ⟨RX4, "vault", "(I)I"⟩
abbrev cX4_hang : ByteArray := prog_1_method_4_code
def yX4_hang : MethodName := ⟨RX4, "hang", "(III)I"⟩
abbrev cX4_link : ByteArray := prog_1_method_5_code
def yX4_link : MethodName := ⟨RX4, "link", "(II)I"⟩
abbrev cX4_put : ByteArray := prog_1_method_6_code
def yX4_put : MethodName := ⟨RX4, "put", "(II)I"⟩
abbrev cX4_take : ByteArray := prog_1_method_7_code
def yX4_take : MethodName := ⟨RX4, "take", "(II)I"⟩
abbrev cX4_move : ByteArray := prog_1_method_8_code
def yX4_move : MethodName := ⟨RX4, "move", "(III)I"⟩
abbrev cX4_split : ByteArray := prog_1_method_9_code
def yX4_split : MethodName := ⟨RX4, "split", "(II)I"⟩
abbrev cX4_swap : ByteArray := prog_1_method_10_code
def yX4_swap : MethodName := ⟨RX4, "swap", "(I)I"⟩
abbrev cX4_polish : ByteArray := prog_1_method_11_code
def yX4_polish : MethodName := ⟨RX4, "polish", "(I)I"⟩
abbrev cX4_rounds : ByteArray := prog_1_method_12_code
def yX4_rounds : MethodName := ⟨RX4, "rounds", "(III)I"⟩
abbrev cX4_sweep : ByteArray := prog_1_method_13_code
def yX4_sweep : MethodName := ⟨RX4, "sweep", "(III)I"⟩
abbrev cX4_walk : ByteArray := prog_1_method_14_code
def yX4_walk : MethodName := ⟨RX4, "walk", "(III)I"⟩
abbrev cX4_order : ByteArray := prog_1_method_15_code
def yX4_order : MethodName := ⟨RX4, "order", "(IIII)I"⟩
abbrev cX4_run : ByteArray := prog_1_method_16_code
def yX4_run : MethodName := ⟨RX4, "run", "()I"⟩
abbrev cX4_sum : ByteArray := prog_1_method_17_code
def yX4_sum : MethodName := ⟨RX4, "sum", "(I)I"⟩
abbrev cX4_hung : ByteArray := prog_1_method_18_code
def yX4_hung : MethodName := ⟨RX4, "hung", "(II)I"⟩
abbrev cX4_wear : ByteArray := prog_1_method_19_code
def yX4_wear : MethodName := ⟨RX4, "wear", "(I)I"⟩
abbrev cX4_entries : ByteArray := prog_1_method_20_code
def yX4_entries : MethodName := ⟨RX4, "entries", "()I"⟩
abbrev cX4_entry : ByteArray := prog_1_method_21_code
def yX4_entry : MethodName := ⟨RX4, "entry", "(I)I"⟩
abbrev cX4_clear : ByteArray := prog_1_method_22_code
def yX4_clear : MethodName := ⟨RX4, "clear", "()I"⟩
abbrev cX4_alarms : ByteArray := prog_1_method_23_code
def yX4_alarms : MethodName := ⟨RX4, "alarms", "()I"⟩
abbrev cX4_orders : ByteArray := prog_1_method_24_code
def yX4_orders : MethodName := ⟨RX4, "orders", "()I"⟩
abbrev cX4_turnBoth : ByteArray := prog_1_method_25_code
def yX4_turnBoth : MethodName := ⟨RX4, "turnBoth", "(I)I"⟩
abbrev cX4_turnHand : ByteArray := prog_1_method_26_code
def yX4_turnHand : MethodName := ⟨RX4, "turnHand", "(II)I"⟩
abbrev cX4_turnKey : ByteArray := prog_1_method_27_code
def yX4_turnKey : MethodName := ⟨RX4, "turnKey", "(I)I"⟩
abbrev cX4_letGo : ByteArray := prog_1_method_28_code
def yX4_letGo : MethodName := ⟨RX4, "letGo", "(II)I"⟩
abbrev cX4_raiseAlarm : ByteArray := prog_1_method_29_code
def yX4_raiseAlarm : MethodName := ⟨RX4, "raiseAlarm", "(I)I"⟩
abbrev cX4_isOrder : ByteArray := prog_1_method_30_code
def yX4_isOrder : MethodName := ⟨RX4, "isOrder", "(IIII)Z"⟩
abbrev cX4_doOrder : ByteArray := prog_1_method_31_code
def yX4_doOrder : MethodName := ⟨RX4, "doOrder", "(I)Z"⟩
abbrev cX4_isWithin : ByteArray := prog_1_method_32_code
def yX4_isWithin : MethodName := ⟨RX4, "isWithin", "(III)Z"⟩
abbrev cX4_isAmount : ByteArray := prog_1_method_33_code
def yX4_isAmount : MethodName := ⟨RX4, "isAmount", "(I)Z"⟩
abbrev cX4_hasRow : ByteArray := prog_1_method_34_code
def yX4_hasRow : MethodName := ⟨RX4, "hasRow", "(II)Z"⟩
def RX5 : String := "VaultHandsModel"
def TX5 : u_T := fun k => match k with
  | 0 => ("VaultHandsModel", "teeth", "[I", true)
  | 1 => ("VaultHandsModel", "wears", "[I", true)
  | 2 => ("VaultHandsModel", "wearOf", "[I", true)
  | 3 => ("VaultHandsModel", "timesHeld", "[I", true)
  | 4 => ("VaultHandsModel", "keys", "I", false)
  | 5 => ("VaultHandsModel", "sums", "[I", true)
  | 6 => ("VaultHandsModel", "limits", "[I", true)
  | 7 => ("VaultHandsModel", "nexts", "[I", true)
  | 8 => ("VaultHandsModel", "hands", "[I", true)
  | 9 => ("VaultHandsModel", "vaults", "I", false)
  | 10 => ("VaultHandsModel", "pile", "[I", true)
  | 11 => ("VaultHandsModel", "height", "I", false)
  | 12 => ("VaultHandsModel", "book", "[I", true)
  | 13 => ("VaultHandsModel", "told", "I", false)
  | 14 => ("VaultHandsModel", "alarmed", "I", false)
  | 15 => ("VaultHandsModel", "ops", "[I", true)
  | 16 => ("VaultHandsModel", "first", "[I", true)
  | 17 => ("VaultHandsModel", "second", "[I", true)
  | 18 => ("VaultHandsModel", "amounts", "[I", true)
  | _ => ("VaultHandsModel", "lying", "I", false)
def tyX5 : Nat → FieldType := fun k => match k with
  | 0 => .array .int
  | 1 => .array .int
  | 2 => .array .int
  | 3 => .array .int
  | 4 => .int
  | 5 => .array .int
  | 6 => .array .int
  | 7 => .array .int
  | 8 => .array .int
  | 9 => .int
  | 10 => .array .int
  | 11 => .int
  | 12 => .array .int
  | 13 => .int
  | 14 => .int
  | 15 => .array .int
  | 16 => .array .int
  | 17 => .array .int
  | 18 => .array .int
  | _ => .int
abbrev wsX50 : List Cond := u_ws RX5 TX5 20
theorem nmX5 : ∀ a, a < 20 → ∀ b, b < 20 → a ≠ b → (TX5 a).2.1 ≠ (TX5 b).2.1 := by decide +kernel
theorem tyX5_ok : ∀ k, k < 20 → parseFieldDescriptor (TX5 k).2.2.1 = some (tyX5 k) := by decide +kernel
abbrev cX5_init : ByteArray := prog_7_method_1_code
def yX5_init : MethodName := ⟨RX5, "<init>", "()V"⟩
abbrev cX5_isKey : ByteArray := prog_7_method_2_code
def yX5_isKey : MethodName := ⟨RX5, "isKey", "(I)Z"⟩
abbrev cX5_isVault : ByteArray := prog_7_method_3_code
def yX5_isVault : MethodName := ⟨RX5, "isVault", "(I)Z"⟩
abbrev cX5_isAmount : ByteArray := prog_7_method_4_code
def yX5_isAmount : MethodName := ⟨RX5, "isAmount", "(I)Z"⟩
abbrev cX5_isHand : ByteArray := prog_7_method_5_code
def yX5_isHand : MethodName := ⟨RX5, "isHand", "(I)Z"⟩
abbrev cX5_enter : ByteArray := prog_7_method_6_code
def yX5_enter : MethodName := ⟨RX5, "enter", "(I)V"⟩
abbrev cX5_key : ByteArray := prog_7_method_7_code
def yX5_key : MethodName := ⟨RX5, "key", "(IZ)I"⟩
abbrev cX5_vault : ByteArray := prog_7_method_8_code
def yX5_vault : MethodName := ⟨RX5, "vault", "(I)I"⟩
abbrev cX5_hang : ByteArray := prog_7_method_9_code
def yX5_hang : MethodName := ⟨RX5, "hang", "(III)I"⟩
abbrev cX5_link : ByteArray := prog_7_method_10_code
def yX5_link : MethodName := ⟨RX5, "link", "(II)I"⟩
abbrev cX5_dropTop : ByteArray := prog_7_method_11_code
def yX5_dropTop : MethodName := ⟨RX5, "dropTop", "(I)V"⟩
abbrev cX5_dropAll : ByteArray := prog_7_method_12_code
def yX5_dropAll : MethodName := ⟨RX5, "dropAll", "(I)V"⟩
abbrev cX5_alarm : ByteArray := prog_7_method_13_code
def yX5_alarm : MethodName := ⟨RX5, "alarm", "()V"⟩
abbrev cX5_turnKey : ByteArray := prog_7_method_14_code
def yX5_turnKey : MethodName := ⟨RX5, "turnKey", "(I)I"⟩
abbrev cX5_turnHand : ByteArray := prog_7_method_15_code
def yX5_turnHand : MethodName := ⟨RX5, "turnHand", "(II)I"⟩
abbrev cX5_turnBoth : ByteArray := prog_7_method_16_code
def yX5_turnBoth : MethodName := ⟨RX5, "turnBoth", "(I)I"⟩
abbrev cX5_ended : ByteArray := prog_7_method_17_code
def yX5_ended : MethodName := ⟨RX5, "ended", "(I)I"⟩
abbrev cX5_answered : ByteArray := prog_7_method_18_code
def yX5_answered : MethodName := ⟨RX5, "answered", "(I)I"⟩
abbrev cX5_alarmed : ByteArray := prog_7_method_19_code
def yX5_alarmed : MethodName := ⟨RX5, "alarmed", "(I)I"⟩
abbrev cX5_put : ByteArray := prog_7_method_20_code
def yX5_put : MethodName := ⟨RX5, "put", "(II)I"⟩
abbrev cX5_take : ByteArray := prog_7_method_21_code
def yX5_take : MethodName := ⟨RX5, "take", "(II)I"⟩
abbrev cX5_move : ByteArray := prog_7_method_22_code
def yX5_move : MethodName := ⟨RX5, "move", "(III)I"⟩
abbrev cX5_split : ByteArray := prog_7_method_23_code
def yX5_split : MethodName := ⟨RX5, "split", "(II)I"⟩
abbrev cX5_swap : ByteArray := prog_7_method_24_code
def yX5_swap : MethodName := ⟨RX5, "swap", "(I)I"⟩
abbrev cX5_polish : ByteArray := prog_7_method_25_code
def yX5_polish : MethodName := ⟨RX5, "polish", "(I)I"⟩
abbrev cX5_areThere : ByteArray := prog_7_method_26_code
def yX5_areThere : MethodName := ⟨RX5, "areThere", "(II)Z"⟩
abbrev cX5_rounds : ByteArray := prog_7_method_27_code
def yX5_rounds : MethodName := ⟨RX5, "rounds", "(III)I"⟩
abbrev cX5_sweep : ByteArray := prog_7_method_28_code
def yX5_sweep : MethodName := ⟨RX5, "sweep", "(III)I"⟩
abbrev cX5_walk : ByteArray := prog_7_method_29_code
def yX5_walk : MethodName := ⟨RX5, "walk", "(III)I"⟩
abbrev cX5_isOrder : ByteArray := prog_7_method_30_code
def yX5_isOrder : MethodName := ⟨RX5, "isOrder", "(IIII)Z"⟩
abbrev cX5_order : ByteArray := prog_7_method_31_code
def yX5_order : MethodName := ⟨RX5, "order", "(IIII)I"⟩
abbrev cX5_carriedOut : ByteArray := prog_7_method_32_code
def yX5_carriedOut : MethodName := ⟨RX5, "carriedOut", "(I)I"⟩
abbrev cX5_run : ByteArray := prog_7_method_33_code
def yX5_run : MethodName := ⟨RX5, "run", "()I"⟩
abbrev cX5_sum : ByteArray := prog_7_method_34_code
def yX5_sum : MethodName := ⟨RX5, "sum", "(I)I"⟩
abbrev cX5_hung : ByteArray := prog_7_method_35_code
def yX5_hung : MethodName := ⟨RX5, "hung", "(II)I"⟩
abbrev cX5_wear : ByteArray := prog_7_method_36_code
def yX5_wear : MethodName := ⟨RX5, "wear", "(I)I"⟩
abbrev cX5_entries : ByteArray := prog_7_method_37_code
def yX5_entries : MethodName := ⟨RX5, "entries", "()I"⟩
abbrev cX5_entry : ByteArray := prog_7_method_38_code
def yX5_entry : MethodName := ⟨RX5, "entry", "(I)I"⟩
abbrev cX5_clear : ByteArray := prog_7_method_39_code
def yX5_clear : MethodName := ⟨RX5, "clear", "()I"⟩
abbrev cX5_alarms : ByteArray := prog_7_method_40_code
def yX5_alarms : MethodName := ⟨RX5, "alarms", "()I"⟩
abbrev cX5_orders : ByteArray := prog_7_method_41_code
def yX5_orders : MethodName := ⟨RX5, "orders", "()I"⟩
def RJ9 : String := "java/lang/Math"
def TJ9 : u_T := fun k => match k with
  | _ => ("", "", "", false)
def tyJ9 : Nat → FieldType := fun k => match k with
  | _ => .int
abbrev wsJ90 : List Cond := u_ws RJ9 TJ9 0
theorem nmJ9 : ∀ a, a < 0 → ∀ b, b < 0 → a ≠ b → (TJ9 a).2.1 ≠ (TJ9 b).2.1 := by decide +kernel
theorem tyJ9_ok : ∀ k, k < 0 → parseFieldDescriptor (TJ9 k).2.2.1 = some (tyJ9 k) := by decide +kernel
abbrev cJ9_min_7cf53 : ByteArray := prog_8_method_69_code
def yJ9_min_7cf53 : MethodName := ⟨RJ9, "min", "(II)I"⟩
def RL : String := "VaultHandsLaw"
abbrev cL_law : ByteArray := code
def yL_law : MethodName := ⟨RL, "law", "([I)Z"⟩
abbrev vwCl : List vw_C := [(RX0, TX0, 2), (RX1, TX1, 5), (RX2, TX2, 5), (RX3, TX3, 6), (RX4, TX4, 7), (RX5, TX5, 20)]
