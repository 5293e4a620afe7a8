section
-- ===== PART A: goes FIRST, ahead of the names: the tables' words, and 'selects' of the private methods out of them =====
/-- a private method of a class that the tables say can be made, by its rows of tables_1 -/
def lw_okq (q : MethodName × Nat) : Prop := (q.1.cls ≠ "java/lang/invoke/MethodHandle" ∧ q.1.cls ≠ "java/lang/invoke/VarHandle") ∧ Cond.instantiable q.1.cls q.2 ∈ tables_1 ∧ Cond.privateMethod q.1 ∈ tables_1 ∧ Cond.instanceMethod q.1 ∈ tables_1
theorem lw_p0 : lw_okq (⟨"TwinLedgers$Ledger", "makeEnd", "(III)V"⟩, 7) := ⟨⟨by decide +kernel, by decide +kernel⟩, List.mem_of_getElem? (i := 21) (by decide +kernel), List.mem_of_getElem? (i := 237) (by decide +kernel), List.mem_of_getElem? (i := 238) (by decide +kernel)⟩
theorem lw_p1 : lw_okq (⟨"TwinLedgers$Ledger", "proveEnd", "(LTwinLedgers$Ledger;IIII)I"⟩, 7) := ⟨⟨by decide +kernel, by decide +kernel⟩, List.mem_of_getElem? (i := 21) (by decide +kernel), List.mem_of_getElem? (i := 260) (by decide +kernel), List.mem_of_getElem? (i := 261) (by decide +kernel)⟩
theorem lw_p2 : lw_okq (⟨"TwinLedgers$Ledger", "proveValue", "(LTwinLedgers$Ledger;III)I"⟩, 7) := ⟨⟨by decide +kernel, by decide +kernel⟩, List.mem_of_getElem? (i := 21) (by decide +kernel), List.mem_of_getElem? (i := 264) (by decide +kernel), List.mem_of_getElem? (i := 265) (by decide +kernel)⟩
theorem lw_p3 : lw_okq (⟨"TwinLedgers$Ledger", "reach", "(LTwinLedgers$Ledger;I)I"⟩, 7) := ⟨⟨by decide +kernel, by decide +kernel⟩, List.mem_of_getElem? (i := 21) (by decide +kernel), List.mem_of_getElem? (i := 268) (by decide +kernel), List.mem_of_getElem? (i := 269) (by decide +kernel)⟩
theorem lw_p4 : lw_okq (⟨"TwinLedgers$Ledger", "moveEnd", "(II)V"⟩, 7) := ⟨⟨by decide +kernel, by decide +kernel⟩, List.mem_of_getElem? (i := 21) (by decide +kernel), List.mem_of_getElem? (i := 292) (by decide +kernel), List.mem_of_getElem? (i := 293) (by decide +kernel)⟩
theorem lw_p5 : lw_okq (⟨"TwinLedgers", "isPacket", "(III)Z"⟩, 2) := ⟨⟨by decide +kernel, by decide +kernel⟩, List.mem_of_getElem? (i := 12) (by decide +kernel), List.mem_of_getElem? (i := 343) (by decide +kernel), List.mem_of_getElem? (i := 344) (by decide +kernel)⟩
theorem lw_p6 : lw_okq (⟨"TwinLedgers$Ledger", "isReceivable", "(II)Z"⟩, 7) := ⟨⟨by decide +kernel, by decide +kernel⟩, List.mem_of_getElem? (i := 21) (by decide +kernel), List.mem_of_getElem? (i := 351) (by decide +kernel), List.mem_of_getElem? (i := 352) (by decide +kernel)⟩
theorem lw_p7 : lw_okq (⟨"TwinLedgers$Bank", "takeBack", "(LTwinLedgers$Packet;I)Z"⟩, 5) := ⟨⟨by decide +kernel, by decide +kernel⟩, List.mem_of_getElem? (i := 57) (by decide +kernel), List.mem_of_getElem? (i := 371) (by decide +kernel), List.mem_of_getElem? (i := 372) (by decide +kernel)⟩
theorem lw_p8 : lw_okq (⟨"TwinLedgers$Bank", "takeVoucher", "(LTwinLedgers$Packet;I)Z"⟩, 5) := ⟨⟨by decide +kernel, by decide +kernel⟩, List.mem_of_getElem? (i := 57) (by decide +kernel), List.mem_of_getElem? (i := 375) (by decide +kernel), List.mem_of_getElem? (i := 376) (by decide +kernel)⟩
theorem lw_p9 : lw_okq (⟨"TwinLedgers$Bank", "findVoucher", "(II)I"⟩, 5) := ⟨⟨by decide +kernel, by decide +kernel⟩, List.mem_of_getElem? (i := 57) (by decide +kernel), List.mem_of_getElem? (i := 379) (by decide +kernel), List.mem_of_getElem? (i := 380) (by decide +kernel)⟩
theorem lw_p10 : lw_okq (⟨"TwinLedgers$Ledger", "noteReceived", "(III)V"⟩, 7) := ⟨⟨by decide +kernel, by decide +kernel⟩, List.mem_of_getElem? (i := 21) (by decide +kernel), List.mem_of_getElem? (i := 383) (by decide +kernel), List.mem_of_getElem? (i := 384) (by decide +kernel)⟩
theorem lw_p11 : lw_okq (⟨"TwinLedgers$Ledger", "settle", "(III)V"⟩, 7) := ⟨⟨by decide +kernel, by decide +kernel⟩, List.mem_of_getElem? (i := 21) (by decide +kernel), List.mem_of_getElem? (i := 398) (by decide +kernel), List.mem_of_getElem? (i := 399) (by decide +kernel)⟩
theorem lw_p12 : lw_okq (⟨"TwinLedgers$Ledger", "proveNotReceived", "(LTwinLedgers$Ledger;III)I"⟩, 7) := ⟨⟨by decide +kernel, by decide +kernel⟩, List.mem_of_getElem? (i := 21) (by decide +kernel), List.mem_of_getElem? (i := 418) (by decide +kernel), List.mem_of_getElem? (i := 419) (by decide +kernel)⟩
theorem lw_p13 : lw_okq (⟨"TwinLedgers$Ledger", "proveAbsence", "(LTwinLedgers$Ledger;II)I"⟩, 7) := ⟨⟨by decide +kernel, by decide +kernel⟩, List.mem_of_getElem? (i := 21) (by decide +kernel), List.mem_of_getElem? (i := 422) (by decide +kernel), List.mem_of_getElem? (i := 423) (by decide +kernel)⟩
theorem lw_p14 : lw_okq (⟨"TwinLedgersModel", "list", "(III)V"⟩, 26) := ⟨⟨by decide +kernel, by decide +kernel⟩, List.mem_of_getElem? (i := 494) (by decide +kernel), List.mem_of_getElem? (i := 586) (by decide +kernel), List.mem_of_getElem? (i := 587) (by decide +kernel)⟩
theorem lw_p15 : lw_okq (⟨"TwinLedgersModel", "listPacket", "(IIII)V"⟩, 26) := ⟨⟨by decide +kernel, by decide +kernel⟩, List.mem_of_getElem? (i := 494) (by decide +kernel), List.mem_of_getElem? (i := 590) (by decide +kernel), List.mem_of_getElem? (i := 591) (by decide +kernel)⟩
def lw_privs_1 : List (MethodName × Nat) := [(⟨"TwinLedgers$Ledger", "makeEnd", "(III)V"⟩, 7), (⟨"TwinLedgers$Ledger", "proveEnd", "(LTwinLedgers$Ledger;IIII)I"⟩, 7), (⟨"TwinLedgers$Ledger", "proveValue", "(LTwinLedgers$Ledger;III)I"⟩, 7), (⟨"TwinLedgers$Ledger", "reach", "(LTwinLedgers$Ledger;I)I"⟩, 7), (⟨"TwinLedgers$Ledger", "moveEnd", "(II)V"⟩, 7), (⟨"TwinLedgers", "isPacket", "(III)Z"⟩, 2), (⟨"TwinLedgers$Ledger", "isReceivable", "(II)Z"⟩, 7), (⟨"TwinLedgers$Bank", "takeBack", "(LTwinLedgers$Packet;I)Z"⟩, 5), (⟨"TwinLedgers$Bank", "takeVoucher", "(LTwinLedgers$Packet;I)Z"⟩, 5), (⟨"TwinLedgers$Bank", "findVoucher", "(II)I"⟩, 5), (⟨"TwinLedgers$Ledger", "noteReceived", "(III)V"⟩, 7), (⟨"TwinLedgers$Ledger", "settle", "(III)V"⟩, 7), (⟨"TwinLedgers$Ledger", "proveNotReceived", "(LTwinLedgers$Ledger;III)I"⟩, 7), (⟨"TwinLedgers$Ledger", "proveAbsence", "(LTwinLedgers$Ledger;II)I"⟩, 7), (⟨"TwinLedgersModel", "list", "(III)V"⟩, 26), (⟨"TwinLedgersModel", "listPacket", "(IIII)V"⟩, 26)]
theorem lw_r1 : ∀ q ∈ lw_privs_1, lw_okq q := List.forall_mem_cons.mpr ⟨lw_p0, List.forall_mem_cons.mpr ⟨lw_p1, List.forall_mem_cons.mpr ⟨lw_p2, List.forall_mem_cons.mpr ⟨lw_p3, List.forall_mem_cons.mpr ⟨lw_p4, List.forall_mem_cons.mpr ⟨lw_p5, List.forall_mem_cons.mpr ⟨lw_p6, List.forall_mem_cons.mpr ⟨lw_p7, List.forall_mem_cons.mpr ⟨lw_p8, List.forall_mem_cons.mpr ⟨lw_p9, List.forall_mem_cons.mpr ⟨lw_p10, List.forall_mem_cons.mpr ⟨lw_p11, List.forall_mem_cons.mpr ⟨lw_p12, List.forall_mem_cons.mpr ⟨lw_p13, List.forall_mem_cons.mpr ⟨lw_p14, List.forall_mem_cons.mpr ⟨lw_p15, fun _ h => absurd h List.not_mem_nil⟩⟩⟩⟩⟩⟩⟩⟩⟩⟩⟩⟩⟩⟩⟩⟩
theorem lw_p16 : lw_okq (⟨"TwinLedgersModel", "print", "(II)I"⟩, 26) := ⟨⟨by decide +kernel, by decide +kernel⟩, List.mem_of_getElem? (i := 494) (by decide +kernel), List.mem_of_getElem? (i := 594) (by decide +kernel), List.mem_of_getElem? (i := 595) (by decide +kernel)⟩
theorem lw_p17 : lw_okq (⟨"TwinLedgersModel", "keeps", "(II)Z"⟩, 26) := ⟨⟨by decide +kernel, by decide +kernel⟩, List.mem_of_getElem? (i := 494) (by decide +kernel), List.mem_of_getElem? (i := 614) (by decide +kernel), List.mem_of_getElem? (i := 615) (by decide +kernel)⟩
theorem lw_p18 : lw_okq (⟨"TwinLedgersModel", "join", "(I)I"⟩, 26) := ⟨⟨by decide +kernel, by decide +kernel⟩, List.mem_of_getElem? (i := 494) (by decide +kernel), List.mem_of_getElem? (i := 618) (by decide +kernel), List.mem_of_getElem? (i := 619) (by decide +kernel)⟩
theorem lw_p19 : lw_okq (⟨"TwinLedgersModel", "proof", "(IIIZI)I"⟩, 26) := ⟨⟨by decide +kernel, by decide +kernel⟩, List.mem_of_getElem? (i := 494) (by decide +kernel), List.mem_of_getElem? (i := 636) (by decide +kernel), List.mem_of_getElem? (i := 637) (by decide +kernel)⟩
theorem lw_p20 : lw_okq (⟨"TwinLedgersModel", "takes", "(IIII)Z"⟩, 26) := ⟨⟨by decide +kernel, by decide +kernel⟩, List.mem_of_getElem? (i := 494) (by decide +kernel), List.mem_of_getElem? (i := 657) (by decide +kernel), List.mem_of_getElem? (i := 658) (by decide +kernel)⟩
theorem lw_p21 : lw_okq (⟨"TwinLedgersModel", "voucherFor", "(III)I"⟩, 26) := ⟨⟨by decide +kernel, by decide +kernel⟩, List.mem_of_getElem? (i := 494) (by decide +kernel), List.mem_of_getElem? (i := 661) (by decide +kernel), List.mem_of_getElem? (i := 662) (by decide +kernel)⟩
theorem lw_p22 : lw_okq (⟨"TwinLedgersModel", "refund", "(III)V"⟩, 26) := ⟨⟨by decide +kernel, by decide +kernel⟩, List.mem_of_getElem? (i := 494) (by decide +kernel), List.mem_of_getElem? (i := 669) (by decide +kernel), List.mem_of_getElem? (i := 670) (by decide +kernel)⟩
theorem lw_p23 : lw_okq (⟨"TwinLedgersModel", "notReceived", "(IIII)I"⟩, 26) := ⟨⟨by decide +kernel, by decide +kernel⟩, List.mem_of_getElem? (i := 494) (by decide +kernel), List.mem_of_getElem? (i := 677) (by decide +kernel), List.mem_of_getElem? (i := 678) (by decide +kernel)⟩
theorem lw_p24 : lw_okq (⟨"TwinLedgersModel", "relay", "(III)I"⟩, 26) := ⟨⟨by decide +kernel, by decide +kernel⟩, List.mem_of_getElem? (i := 494) (by decide +kernel), List.mem_of_getElem? (i := 687) (by decide +kernel), List.mem_of_getElem? (i := 688) (by decide +kernel)⟩
theorem lw_p25 : lw_okq (⟨"TwinLedgersModel", "isPacket", "(III)Z"⟩, 26) := ⟨⟨by decide +kernel, by decide +kernel⟩, List.mem_of_getElem? (i := 494) (by decide +kernel), List.mem_of_getElem? (i := 706) (by decide +kernel), List.mem_of_getElem? (i := 707) (by decide +kernel)⟩
def lw_privs_2 : List (MethodName × Nat) := [(⟨"TwinLedgersModel", "print", "(II)I"⟩, 26), (⟨"TwinLedgersModel", "keeps", "(II)Z"⟩, 26), (⟨"TwinLedgersModel", "join", "(I)I"⟩, 26), (⟨"TwinLedgersModel", "proof", "(IIIZI)I"⟩, 26), (⟨"TwinLedgersModel", "takes", "(IIII)Z"⟩, 26), (⟨"TwinLedgersModel", "voucherFor", "(III)I"⟩, 26), (⟨"TwinLedgersModel", "refund", "(III)V"⟩, 26), (⟨"TwinLedgersModel", "notReceived", "(IIII)I"⟩, 26), (⟨"TwinLedgersModel", "relay", "(III)I"⟩, 26), (⟨"TwinLedgersModel", "isPacket", "(III)Z"⟩, 26)]
theorem lw_r2 : ∀ q ∈ lw_privs_2, lw_okq q := List.forall_mem_cons.mpr ⟨lw_p16, List.forall_mem_cons.mpr ⟨lw_p17, List.forall_mem_cons.mpr ⟨lw_p18, List.forall_mem_cons.mpr ⟨lw_p19, List.forall_mem_cons.mpr ⟨lw_p20, List.forall_mem_cons.mpr ⟨lw_p21, List.forall_mem_cons.mpr ⟨lw_p22, List.forall_mem_cons.mpr ⟨lw_p23, List.forall_mem_cons.mpr ⟨lw_p24, List.forall_mem_cons.mpr ⟨lw_p25, fun _ h => absurd h List.not_mem_nil⟩⟩⟩⟩⟩⟩⟩⟩⟩⟩
def lw_privs : List (MethodName × Nat) := lw_privs_1 ++ (lw_privs_2)
def lw_tbl : List Cond := k2_sels lw_privs ++ tables_1
theorem lw_privs_ok : ∀ q ∈ lw_privs, lw_okq q := by
  show ∀ q ∈ lw_privs_1 ++ (lw_privs_2), lw_okq q
  exact List.forall_mem_append.mpr ⟨lw_r1, lw_r2⟩
end
section
def zw_WS : List Cond := lw_tbl.filter goodWord
theorem zw_mem {w : Cond} (i : Nat) (h : lw_tbl[i]? = some w) (hg : goodWord w = true) : w ∈ zw_WS := List.mem_filter.mpr ⟨List.mem_of_getElem? h, hg⟩
def zf_TL : u_T := fun k => match k with
  | 0 => ("TwinLedgers", "patience", "I", true)
  | _ => ("TwinLedgers", "ledgers", "[LTwinLedgers$Ledger;", true)
def zy_TL : Nat → FieldType := fun k => match k with
  | 0 => .int
  | _ => .array (.object "TwinLedgers$Ledger")
theorem zj_TL : ∀ k, k < 2 → parseFieldDescriptor (zf_TL k).2.2.1 = some (zy_TL k) := by decide +kernel
theorem zl_TL : ∀ a, a < 2 → ∀ b, b < 2 → a ≠ b → (zf_TL a).2.1 ≠ (zf_TL b).2.1 := by decide +kernel
theorem zi_TL : ∀ w ∈ u_ws "TwinLedgers" zf_TL 2, w ∈ zw_WS := by decide +kernel
def zf_Ledger : u_T := fun k => match k with
  | 0 => ("TwinLedgers$Ledger", "store", "LTwinLedgers$Store;", true)
  | 1 => ("TwinLedgers$Ledger", "states", "[LTwinLedgers$Store;", true)
  | 2 => ("TwinLedgers$Ledger", "nodes", "[I", true)
  | 3 => ("TwinLedgers$Ledger", "client", "LTwinLedgers$Client;", true)
  | 4 => ("TwinLedgers$Ledger", "bank", "LTwinLedgers$Bank;", true)
  | 5 => ("TwinLedgers$Ledger", "ends", "[LTwinLedgers$End;", true)
  | _ => ("TwinLedgers$Ledger", "height", "I", false)
def zy_Ledger : Nat → FieldType := fun k => match k with
  | 0 => .object "TwinLedgers$Store"
  | 1 => .array (.object "TwinLedgers$Store")
  | 2 => .array .int
  | 3 => .object "TwinLedgers$Client"
  | 4 => .object "TwinLedgers$Bank"
  | 5 => .array (.object "TwinLedgers$End")
  | _ => .int
theorem zj_Ledger : ∀ k, k < 7 → parseFieldDescriptor (zf_Ledger k).2.2.1 = some (zy_Ledger k) := by decide +kernel
theorem zl_Ledger : ∀ a, a < 7 → ∀ b, b < 7 → a ≠ b → (zf_Ledger a).2.1 ≠ (zf_Ledger b).2.1 := by decide +kernel
theorem zi_Ledger : ∀ w ∈ u_ws "TwinLedgers$Ledger" zf_Ledger 7, w ∈ zw_WS := by decide +kernel
def zf_Store : u_T := fun k => match k with
  | 0 => ("TwinLedgers$Store", "values", "[I", true)
  | _ => ("TwinLedgers$Store", "there", "[Z", true)
def zy_Store : Nat → FieldType := fun k => match k with
  | 0 => .array .int
  | _ => .array .boolean
theorem zj_Store : ∀ k, k < 2 → parseFieldDescriptor (zf_Store k).2.2.1 = some (zy_Store k) := by decide +kernel
theorem zl_Store : ∀ a, a < 2 → ∀ b, b < 2 → a ≠ b → (zf_Store a).2.1 ≠ (zf_Store b).2.1 := by decide +kernel
theorem zi_Store : ∀ w ∈ u_ws "TwinLedgers$Store" zf_Store 2, w ∈ zw_WS := by decide +kernel
def zf_Client : u_T := fun k => match k with
  | 0 => ("TwinLedgers$Client", "known", "[Z", true)
  | _ => ("TwinLedgers$Client", "greatest", "I", false)
def zy_Client : Nat → FieldType := fun k => match k with
  | 0 => .array .boolean
  | _ => .int
theorem zj_Client : ∀ k, k < 2 → parseFieldDescriptor (zf_Client k).2.2.1 = some (zy_Client k) := by decide +kernel
theorem zl_Client : ∀ a, a < 2 → ∀ b, b < 2 → a ≠ b → (zf_Client a).2.1 ≠ (zf_Client b).2.1 := by decide +kernel
theorem zi_Client : ∀ w ∈ u_ws "TwinLedgers$Client" zf_Client 2, w ∈ zw_WS := by decide +kernel
def zf_Bank : u_T := fun k => match k with
  | 0 => ("TwinLedgers$Bank", "purses", "[[I", true)
  | 1 => ("TwinLedgers$Bank", "escrows", "[[I", true)
  | 2 => ("TwinLedgers$Bank", "bases", "[I", true)
  | 3 => ("TwinLedgers$Bank", "channels", "[I", true)
  | _ => ("TwinLedgers$Bank", "vouchers", "I", false)
def zy_Bank : Nat → FieldType := fun k => match k with
  | 0 => .array (.array .int)
  | 1 => .array (.array .int)
  | 2 => .array .int
  | 3 => .array .int
  | _ => .int
theorem zj_Bank : ∀ k, k < 5 → parseFieldDescriptor (zf_Bank k).2.2.1 = some (zy_Bank k) := by decide +kernel
theorem zl_Bank : ∀ a, a < 5 → ∀ b, b < 5 → a ≠ b → (zf_Bank a).2.1 ≠ (zf_Bank b).2.1 := by decide +kernel
theorem zi_Bank : ∀ w ∈ u_ws "TwinLedgers$Bank" zf_Bank 5, w ∈ zw_WS := by decide +kernel
def zf_End : u_T := fun k => match k with
  | 0 => ("TwinLedgers$End", "packets", "[LTwinLedgers$Packet;", true)
  | 1 => ("TwinLedgers$End", "sent", "I", false)
  | _ => ("TwinLedgers$End", "nextToAcknowledge", "I", false)
def zy_End : Nat → FieldType := fun k => match k with
  | 0 => .array (.object "TwinLedgers$Packet")
  | 1 => .int
  | _ => .int
theorem zj_End : ∀ k, k < 3 → parseFieldDescriptor (zf_End k).2.2.1 = some (zy_End k) := by decide +kernel
theorem zl_End : ∀ a, a < 3 → ∀ b, b < 3 → a ≠ b → (zf_End a).2.1 ≠ (zf_End b).2.1 := by decide +kernel
theorem zi_End : ∀ w ∈ u_ws "TwinLedgers$End" zf_End 3, w ∈ zw_WS := by decide +kernel
def zf_Packet : u_T := fun k => match k with
  | 0 => ("TwinLedgers$Packet", "kind", "I", false)
  | 1 => ("TwinLedgers$Packet", "amount", "I", false)
  | 2 => ("TwinLedgers$Packet", "from", "I", false)
  | 3 => ("TwinLedgers$Packet", "to", "I", false)
  | 4 => ("TwinLedgers$Packet", "lastHeight", "I", false)
  | 5 => ("TwinLedgers$Packet", "back", "I", false)
  | _ => ("TwinLedgers$Packet", "fate", "I", false)
def zy_Packet : Nat → FieldType := fun k => match k with
  | 0 => .int
  | 1 => .int
  | 2 => .int
  | 3 => .int
  | 4 => .int
  | 5 => .int
  | _ => .int
theorem zj_Packet : ∀ k, k < 7 → parseFieldDescriptor (zf_Packet k).2.2.1 = some (zy_Packet k) := by decide +kernel
theorem zl_Packet : ∀ a, a < 7 → ∀ b, b < 7 → a ≠ b → (zf_Packet a).2.1 ≠ (zf_Packet b).2.1 := by decide +kernel
theorem zi_Packet : ∀ w ∈ u_ws "TwinLedgers$Packet" zf_Packet 7, w ∈ zw_WS := by decide +kernel
def zf_Mo : u_T := fun k => match k with
  | 0 => ("TwinLedgersModel", "patience", "I", true)
  | 1 => ("TwinLedgersModel", "height", "[I", true)
  | 2 => ("TwinLedgersModel", "known", "[Z", true)
  | 3 => ("TwinLedgersModel", "newest", "[I", true)
  | 4 => ("TwinLedgersModel", "sizes", "[I", true)
  | 5 => ("TwinLedgersModel", "keys", "[I", true)
  | 6 => ("TwinLedgersModel", "values", "[I", true)
  | 7 => ("TwinLedgersModel", "state", "[I", true)
  | 8 => ("TwinLedgersModel", "ordered", "[Z", true)
  | 9 => ("TwinLedgersModel", "sent", "[I", true)
  | 10 => ("TwinLedgersModel", "nextIn", "[I", true)
  | 11 => ("TwinLedgersModel", "nextAnswer", "[I", true)
  | 12 => ("TwinLedgersModel", "pKind", "[I", true)
  | 13 => ("TwinLedgersModel", "pAmount", "[I", true)
  | 14 => ("TwinLedgersModel", "pWho", "[I", true)
  | 15 => ("TwinLedgersModel", "pLimit", "[I", true)
  | 16 => ("TwinLedgersModel", "pBack", "[I", true)
  | 17 => ("TwinLedgersModel", "pStatus", "[I", true)
  | 18 => ("TwinLedgersModel", "pAnswer", "[I", true)
  | 19 => ("TwinLedgersModel", "balance", "[I", true)
  | 20 => ("TwinLedgersModel", "escrow", "[I", true)
  | 21 => ("TwinLedgersModel", "vouchers", "[I", true)
  | 22 => ("TwinLedgersModel", "base", "[I", true)
  | 23 => ("TwinLedgersModel", "by", "[I", true)
  | 24 => ("TwinLedgersModel", "part", "[I", true)
  | _ => ("TwinLedgersModel", "leaves", "[I", true)
def zy_Mo : Nat → FieldType := fun k => match k with
  | 0 => .int
  | 1 => .array .int
  | 2 => .array .boolean
  | 3 => .array .int
  | 4 => .array .int
  | 5 => .array .int
  | 6 => .array .int
  | 7 => .array .int
  | 8 => .array .boolean
  | 9 => .array .int
  | 10 => .array .int
  | 11 => .array .int
  | 12 => .array .int
  | 13 => .array .int
  | 14 => .array .int
  | 15 => .array .int
  | 16 => .array .int
  | 17 => .array .int
  | 18 => .array .int
  | 19 => .array .int
  | 20 => .array .int
  | 21 => .array .int
  | 22 => .array .int
  | 23 => .array .int
  | 24 => .array .int
  | _ => .array .int
theorem zj_Mo : ∀ k, k < 26 → parseFieldDescriptor (zf_Mo k).2.2.1 = some (zy_Mo k) := by decide +kernel
theorem zl_Mo : ∀ a, a < 26 → ∀ b, b < 26 → a ≠ b → (zf_Mo a).2.1 ≠ (zf_Mo b).2.1 := by decide +kernel
theorem zi_Mo : ∀ w ∈ u_ws "TwinLedgersModel" zf_Mo 26, w ∈ zw_WS := by decide +kernel
abbrev zw_cl : List vw_C := [("TwinLedgers", zf_TL, 2), ("TwinLedgers$Ledger", zf_Ledger, 7), ("TwinLedgers$Store", zf_Store, 2), ("TwinLedgers$Client", zf_Client, 2), ("TwinLedgers$Bank", zf_Bank, 5), ("TwinLedgers$End", zf_End, 3), ("TwinLedgers$Packet", zf_Packet, 7), ("TwinLedgersModel", zf_Mo, 26)]
def zw_NS : List Cond := [Cond.methodLinkNest "TwinLedgers$Ledger" 11 ⟨"TwinLedgers$Store", "<init>", "()V"⟩ "TwinLedgers", Cond.methodLinkNest "TwinLedgers$Ledger" 28 ⟨"TwinLedgers$Client", "<init>", "()V"⟩ "TwinLedgers", Cond.fieldLinkNest "TwinLedgers$Ledger" 139 "TwinLedgers$Client" "greatest" "I" "TwinLedgers", Cond.fieldLinkNest "TwinLedgers$Ledger" 117 "TwinLedgers$Bank" "purses" "[[I" "TwinLedgers", Cond.fieldLinkNest "TwinLedgers" 143 "TwinLedgers$Bank" "purses" "[[I" "TwinLedgers", Cond.fieldLinkNest "TwinLedgers" 147 "TwinLedgers$Bank" "escrows" "[[I" "TwinLedgers", Cond.fieldLinkNest "TwinLedgers" 150 "TwinLedgers$Bank" "bases" "[I" "TwinLedgers", Cond.fieldLinkNest "TwinLedgers" 154 "TwinLedgers$Bank" "channels" "[I" "TwinLedgers", Cond.methodLinkNest "TwinLedgers$End" 21 ⟨"TwinLedgers$Packet", "<init>", "()V"⟩ "TwinLedgers", Cond.fieldLinkNest "TwinLedgers$Bank" 35 "TwinLedgers$Packet" "kind" "I" "TwinLedgers", Cond.fieldLinkNest "TwinLedgers$Ledger" 125 "TwinLedgers$Packet" "kind" "I" "TwinLedgers", Cond.fieldLinkNest "TwinLedgers$Bank" 38 "TwinLedgers$Packet" "amount" "I" "TwinLedgers", Cond.fieldLinkNest "TwinLedgers$Ledger" 130 "TwinLedgers$Packet" "amount" "I" "TwinLedgers", Cond.fieldLinkNest "TwinLedgers$Bank" 30 "TwinLedgers$Packet" "from" "I" "TwinLedgers", Cond.fieldLinkNest "TwinLedgers$Ledger" 133 "TwinLedgers$Packet" "from" "I" "TwinLedgers", Cond.fieldLinkNest "TwinLedgers$Bank" 45 "TwinLedgers$Packet" "to" "I" "TwinLedgers", Cond.fieldLinkNest "TwinLedgers$Ledger" 136 "TwinLedgers$Packet" "to" "I" "TwinLedgers", Cond.fieldLinkNest "TwinLedgers" 140 "TwinLedgers$Packet" "lastHeight" "I" "TwinLedgers", Cond.fieldLinkNest "TwinLedgers$Ledger" 142 "TwinLedgers$Packet" "lastHeight" "I" "TwinLedgers", Cond.fieldLinkNest "TwinLedgers$Bank" 55 "TwinLedgers$Packet" "back" "I" "TwinLedgers", Cond.fieldLinkNest "TwinLedgers$Ledger" 148 "TwinLedgers$Packet" "back" "I" "TwinLedgers", Cond.fieldLinkNest "TwinLedgers" 135 "TwinLedgers$Packet" "fate" "I" "TwinLedgers", Cond.fieldLinkNest "TwinLedgers$Ledger" 187 "TwinLedgers$Packet" "fate" "I" "TwinLedgers", Cond.fieldLinkNest "TwinLedgers" 131 "TwinLedgers$End" "packets" "[LTwinLedgers$Packet;" "TwinLedgers", Cond.fieldLinkNest "TwinLedgers$Ledger" 121 "TwinLedgers$End" "packets" "[LTwinLedgers$Packet;" "TwinLedgers", Cond.fieldLinkNest "TwinLedgers" 120 "TwinLedgers$End" "sent" "I" "TwinLedgers", Cond.fieldLinkNest "TwinLedgers$Ledger" 114 "TwinLedgers$End" "sent" "I" "TwinLedgers", Cond.fieldLinkNest "TwinLedgers" 128 "TwinLedgers$End" "nextToAcknowledge" "I" "TwinLedgers", Cond.fieldLinkNest "TwinLedgers$Ledger" 184 "TwinLedgers$End" "nextToAcknowledge" "I" "TwinLedgers", Cond.fieldLinkNest "TwinLedgers" 37 "TwinLedgers$Ledger" "client" "LTwinLedgers$Client;" "TwinLedgers", Cond.fieldLinkNest "TwinLedgers" 66 "TwinLedgers$Ledger" "bank" "LTwinLedgers$Bank;" "TwinLedgers", Cond.fieldLinkNest "TwinLedgers" 116 "TwinLedgers$Ledger" "ends" "[LTwinLedgers$End;" "TwinLedgers", Cond.fieldLinkNest "TwinLedgers" 28 "TwinLedgers$Ledger" "height" "I" "TwinLedgers", Cond.methodLinkNest "TwinLedgers$Packet" 18 ⟨"TwinLedgers", "mix", "(II)I"⟩ "TwinLedgers", Cond.methodLinkNest "TwinLedgers$Store" 23 ⟨"TwinLedgers", "mix", "(II)I"⟩ "TwinLedgers"]
def ym_TL_ctor : MethodName := ⟨"TwinLedgers", "<init>", "(I)V"⟩
abbrev bm_TL_ctor : ByteArray := prog_1_method_1_code
theorem zk_TL_ctor : Cond.code ym_TL_ctor bm_TL_ctor 3 none ∈ zw_WS ∧ Cond.initialized ym_TL_ctor.cls ∈ zw_WS ∧ (ym_TL_ctor.cls ≠ "java/lang/invoke/MethodHandle" ∧ ym_TL_ctor.cls ≠ "java/lang/invoke/VarHandle" ∧ (parseMethodDescriptor ym_TL_ctor.desc).map (fun d => d.parameters.length) = some 1) := ⟨zw_mem 41 (by decide +kernel) rfl, zw_mem 27 (by decide +kernel) rfl, by decide +kernel, by decide +kernel, by decide +kernel⟩
theorem za_TL_ctor : Cond.instanceMethod ym_TL_ctor ∈ zw_WS := zw_mem 40 (by decide +kernel) rfl
def ym_TL_tick : MethodName := ⟨"TwinLedgers", "tick", "(I)I"⟩
abbrev bm_TL_tick : ByteArray := prog_1_method_2_code
theorem zk_TL_tick : Cond.code ym_TL_tick bm_TL_tick 2 (some .int) ∈ zw_WS ∧ Cond.initialized ym_TL_tick.cls ∈ zw_WS ∧ (ym_TL_tick.cls ≠ "java/lang/invoke/MethodHandle" ∧ ym_TL_tick.cls ≠ "java/lang/invoke/VarHandle" ∧ (parseMethodDescriptor ym_TL_tick.desc).map (fun d => d.parameters.length) = some 1) := ⟨zw_mem 211 (by decide +kernel) rfl, zw_mem 27 (by decide +kernel) rfl, by decide +kernel, by decide +kernel, by decide +kernel⟩
theorem za_TL_tick : Cond.instanceMethod ym_TL_tick ∈ zw_WS := zw_mem 209 (by decide +kernel) rfl
theorem zb_TL_tick : Cond.selects ym_TL_tick.cls ym_TL_tick ym_TL_tick ∈ zw_WS := zw_mem 210 (by decide +kernel) rfl
def ym_TL_update : MethodName := ⟨"TwinLedgers", "update", "(IIIZ)I"⟩
abbrev bm_TL_update : ByteArray := prog_1_method_3_code
theorem zk_TL_update : Cond.code ym_TL_update bm_TL_update 5 (some .int) ∈ zw_WS ∧ Cond.initialized ym_TL_update.cls ∈ zw_WS ∧ (ym_TL_update.cls ≠ "java/lang/invoke/MethodHandle" ∧ ym_TL_update.cls ≠ "java/lang/invoke/VarHandle" ∧ (parseMethodDescriptor ym_TL_update.desc).map (fun d => d.parameters.length) = some 4) := ⟨zw_mem 226 (by decide +kernel) rfl, zw_mem 27 (by decide +kernel) rfl, by decide +kernel, by decide +kernel, by decide +kernel⟩
theorem za_TL_update : Cond.instanceMethod ym_TL_update ∈ zw_WS := zw_mem 224 (by decide +kernel) rfl
theorem zb_TL_update : Cond.selects ym_TL_update.cls ym_TL_update ym_TL_update ∈ zw_WS := zw_mem 225 (by decide +kernel) rfl
def ym_TL_init : MethodName := ⟨"TwinLedgers", "init", "(IIZ)I"⟩
abbrev bm_TL_init : ByteArray := prog_1_method_4_code
theorem zk_TL_init : Cond.code ym_TL_init bm_TL_init 4 (some .int) ∈ zw_WS ∧ Cond.initialized ym_TL_init.cls ∈ zw_WS ∧ (ym_TL_init.cls ≠ "java/lang/invoke/MethodHandle" ∧ ym_TL_init.cls ≠ "java/lang/invoke/VarHandle" ∧ (parseMethodDescriptor ym_TL_init.desc).map (fun d => d.parameters.length) = some 3) := ⟨zw_mem 243 (by decide +kernel) rfl, zw_mem 27 (by decide +kernel) rfl, by decide +kernel, by decide +kernel, by decide +kernel⟩
theorem za_TL_init : Cond.instanceMethod ym_TL_init ∈ zw_WS := zw_mem 241 (by decide +kernel) rfl
theorem zb_TL_init : Cond.selects ym_TL_init.cls ym_TL_init ym_TL_init ∈ zw_WS := zw_mem 242 (by decide +kernel) rfl
def ym_TL_attempt : MethodName := ⟨"TwinLedgers", "attempt", "(IIZI)I"⟩
abbrev bm_TL_attempt : ByteArray := prog_1_method_5_code
theorem zk_TL_attempt : Cond.code ym_TL_attempt bm_TL_attempt 5 (some .int) ∈ zw_WS ∧ Cond.initialized ym_TL_attempt.cls ∈ zw_WS ∧ (ym_TL_attempt.cls ≠ "java/lang/invoke/MethodHandle" ∧ ym_TL_attempt.cls ≠ "java/lang/invoke/VarHandle" ∧ (parseMethodDescriptor ym_TL_attempt.desc).map (fun d => d.parameters.length) = some 4) := ⟨zw_mem 276 (by decide +kernel) rfl, zw_mem 27 (by decide +kernel) rfl, by decide +kernel, by decide +kernel, by decide +kernel⟩
theorem za_TL_attempt : Cond.instanceMethod ym_TL_attempt ∈ zw_WS := zw_mem 274 (by decide +kernel) rfl
theorem zb_TL_attempt : Cond.selects ym_TL_attempt.cls ym_TL_attempt ym_TL_attempt ∈ zw_WS := zw_mem 275 (by decide +kernel) rfl
def ym_TL_open : MethodName := ⟨"TwinLedgers", "open", "(IIII)I"⟩
abbrev bm_TL_open : ByteArray := prog_1_method_6_code
theorem zk_TL_open : Cond.code ym_TL_open bm_TL_open 7 (some .int) ∈ zw_WS ∧ Cond.initialized ym_TL_open.cls ∈ zw_WS ∧ (ym_TL_open.cls ≠ "java/lang/invoke/MethodHandle" ∧ ym_TL_open.cls ≠ "java/lang/invoke/VarHandle" ∧ (parseMethodDescriptor ym_TL_open.desc).map (fun d => d.parameters.length) = some 4) := ⟨zw_mem 312 (by decide +kernel) rfl, zw_mem 27 (by decide +kernel) rfl, by decide +kernel, by decide +kernel, by decide +kernel⟩
theorem za_TL_open : Cond.instanceMethod ym_TL_open ∈ zw_WS := zw_mem 310 (by decide +kernel) rfl
theorem zb_TL_open : Cond.selects ym_TL_open.cls ym_TL_open ym_TL_open ∈ zw_WS := zw_mem 311 (by decide +kernel) rfl
def ym_TL_close : MethodName := ⟨"TwinLedgers", "close", "(II)I"⟩
abbrev bm_TL_close : ByteArray := prog_1_method_7_code
theorem zk_TL_close : Cond.code ym_TL_close bm_TL_close 3 (some .int) ∈ zw_WS ∧ Cond.initialized ym_TL_close.cls ∈ zw_WS ∧ (ym_TL_close.cls ≠ "java/lang/invoke/MethodHandle" ∧ ym_TL_close.cls ≠ "java/lang/invoke/VarHandle" ∧ (parseMethodDescriptor ym_TL_close.desc).map (fun d => d.parameters.length) = some 2) := ⟨zw_mem 324 (by decide +kernel) rfl, zw_mem 27 (by decide +kernel) rfl, by decide +kernel, by decide +kernel, by decide +kernel⟩
theorem za_TL_close : Cond.instanceMethod ym_TL_close ∈ zw_WS := zw_mem 322 (by decide +kernel) rfl
theorem zb_TL_close : Cond.selects ym_TL_close.cls ym_TL_close ym_TL_close ∈ zw_WS := zw_mem 323 (by decide +kernel) rfl
def ym_TL_send : MethodName := ⟨"TwinLedgers", "send", "(IIIII)I"⟩
abbrev bm_TL_send : ByteArray := prog_1_method_8_code
theorem zk_TL_send : Cond.code ym_TL_send bm_TL_send 6 (some .int) ∈ zw_WS ∧ Cond.initialized ym_TL_send.cls ∈ zw_WS ∧ (ym_TL_send.cls ≠ "java/lang/invoke/MethodHandle" ∧ ym_TL_send.cls ≠ "java/lang/invoke/VarHandle" ∧ (parseMethodDescriptor ym_TL_send.desc).map (fun d => d.parameters.length) = some 5) := ⟨zw_mem 332 (by decide +kernel) rfl, zw_mem 27 (by decide +kernel) rfl, by decide +kernel, by decide +kernel, by decide +kernel⟩
theorem za_TL_send : Cond.instanceMethod ym_TL_send ∈ zw_WS := zw_mem 330 (by decide +kernel) rfl
theorem zb_TL_send : Cond.selects ym_TL_send.cls ym_TL_send ym_TL_send ∈ zw_WS := zw_mem 331 (by decide +kernel) rfl
def ym_TL_receive : MethodName := ⟨"TwinLedgers", "receive", "(IIIIZ)I"⟩
abbrev bm_TL_receive : ByteArray := prog_1_method_9_code
theorem zk_TL_receive : Cond.code ym_TL_receive bm_TL_receive 6 (some .int) ∈ zw_WS ∧ Cond.initialized ym_TL_receive.cls ∈ zw_WS ∧ (ym_TL_receive.cls ≠ "java/lang/invoke/MethodHandle" ∧ ym_TL_receive.cls ≠ "java/lang/invoke/VarHandle" ∧ (parseMethodDescriptor ym_TL_receive.desc).map (fun d => d.parameters.length) = some 5) := ⟨zw_mem 367 (by decide +kernel) rfl, zw_mem 27 (by decide +kernel) rfl, by decide +kernel, by decide +kernel, by decide +kernel⟩
theorem za_TL_receive : Cond.instanceMethod ym_TL_receive ∈ zw_WS := zw_mem 365 (by decide +kernel) rfl
theorem zb_TL_receive : Cond.selects ym_TL_receive.cls ym_TL_receive ym_TL_receive ∈ zw_WS := zw_mem 366 (by decide +kernel) rfl
def ym_TL_acknowledge : MethodName := ⟨"TwinLedgers", "acknowledge", "(IIII)I"⟩
abbrev bm_TL_acknowledge : ByteArray := prog_1_method_10_code
theorem zk_TL_acknowledge : Cond.code ym_TL_acknowledge bm_TL_acknowledge 5 (some .int) ∈ zw_WS ∧ Cond.initialized ym_TL_acknowledge.cls ∈ zw_WS ∧ (ym_TL_acknowledge.cls ≠ "java/lang/invoke/MethodHandle" ∧ ym_TL_acknowledge.cls ≠ "java/lang/invoke/VarHandle" ∧ (parseMethodDescriptor ym_TL_acknowledge.desc).map (fun d => d.parameters.length) = some 4) := ⟨zw_mem 418 (by decide +kernel) rfl, zw_mem 27 (by decide +kernel) rfl, by decide +kernel, by decide +kernel, by decide +kernel⟩
theorem za_TL_acknowledge : Cond.instanceMethod ym_TL_acknowledge ∈ zw_WS := zw_mem 416 (by decide +kernel) rfl
theorem zb_TL_acknowledge : Cond.selects ym_TL_acknowledge.cls ym_TL_acknowledge ym_TL_acknowledge ∈ zw_WS := zw_mem 417 (by decide +kernel) rfl
def ym_TL_timeout : MethodName := ⟨"TwinLedgers", "timeout", "(IIIIZ)I"⟩
abbrev bm_TL_timeout : ByteArray := prog_1_method_11_code
theorem zk_TL_timeout : Cond.code ym_TL_timeout bm_TL_timeout 6 (some .int) ∈ zw_WS ∧ Cond.initialized ym_TL_timeout.cls ∈ zw_WS ∧ (ym_TL_timeout.cls ≠ "java/lang/invoke/MethodHandle" ∧ ym_TL_timeout.cls ≠ "java/lang/invoke/VarHandle" ∧ (parseMethodDescriptor ym_TL_timeout.desc).map (fun d => d.parameters.length) = some 5) := ⟨zw_mem 438 (by decide +kernel) rfl, zw_mem 27 (by decide +kernel) rfl, by decide +kernel, by decide +kernel, by decide +kernel⟩
theorem za_TL_timeout : Cond.instanceMethod ym_TL_timeout ∈ zw_WS := zw_mem 436 (by decide +kernel) rfl
theorem zb_TL_timeout : Cond.selects ym_TL_timeout.cls ym_TL_timeout ym_TL_timeout ∈ zw_WS := zw_mem 437 (by decide +kernel) rfl
def ym_TL_round : MethodName := ⟨"TwinLedgers", "round", "()I"⟩
abbrev bm_TL_round : ByteArray := prog_1_method_12_code
theorem zk_TL_round : Cond.code ym_TL_round bm_TL_round 3 (some .int) ∈ zw_WS ∧ Cond.initialized ym_TL_round.cls ∈ zw_WS ∧ (ym_TL_round.cls ≠ "java/lang/invoke/MethodHandle" ∧ ym_TL_round.cls ≠ "java/lang/invoke/VarHandle" ∧ (parseMethodDescriptor ym_TL_round.desc).map (fun d => d.parameters.length) = some 0) := ⟨zw_mem 454 (by decide +kernel) rfl, zw_mem 27 (by decide +kernel) rfl, by decide +kernel, by decide +kernel, by decide +kernel⟩
theorem za_TL_round : Cond.instanceMethod ym_TL_round ∈ zw_WS := zw_mem 452 (by decide +kernel) rfl
theorem zb_TL_round : Cond.selects ym_TL_round.cls ym_TL_round ym_TL_round ∈ zw_WS := zw_mem 453 (by decide +kernel) rfl
def ym_TL_height : MethodName := ⟨"TwinLedgers", "height", "(I)I"⟩
abbrev bm_TL_height : ByteArray := prog_1_method_13_code
theorem zk_TL_height : Cond.code ym_TL_height bm_TL_height 2 (some .int) ∈ zw_WS ∧ Cond.initialized ym_TL_height.cls ∈ zw_WS ∧ (ym_TL_height.cls ≠ "java/lang/invoke/MethodHandle" ∧ ym_TL_height.cls ≠ "java/lang/invoke/VarHandle" ∧ (parseMethodDescriptor ym_TL_height.desc).map (fun d => d.parameters.length) = some 1) := ⟨zw_mem 467 (by decide +kernel) rfl, zw_mem 27 (by decide +kernel) rfl, by decide +kernel, by decide +kernel, by decide +kernel⟩
theorem za_TL_height : Cond.instanceMethod ym_TL_height ∈ zw_WS := zw_mem 465 (by decide +kernel) rfl
theorem zb_TL_height : Cond.selects ym_TL_height.cls ym_TL_height ym_TL_height ∈ zw_WS := zw_mem 466 (by decide +kernel) rfl
def ym_TL_root : MethodName := ⟨"TwinLedgers", "root", "(II)I"⟩
abbrev bm_TL_root : ByteArray := prog_1_method_14_code
theorem zk_TL_root : Cond.code ym_TL_root bm_TL_root 3 (some .int) ∈ zw_WS ∧ Cond.initialized ym_TL_root.cls ∈ zw_WS ∧ (ym_TL_root.cls ≠ "java/lang/invoke/MethodHandle" ∧ ym_TL_root.cls ≠ "java/lang/invoke/VarHandle" ∧ (parseMethodDescriptor ym_TL_root.desc).map (fun d => d.parameters.length) = some 2) := ⟨zw_mem 471 (by decide +kernel) rfl, zw_mem 27 (by decide +kernel) rfl, by decide +kernel, by decide +kernel, by decide +kernel⟩
theorem za_TL_root : Cond.instanceMethod ym_TL_root ∈ zw_WS := zw_mem 469 (by decide +kernel) rfl
theorem zb_TL_root : Cond.selects ym_TL_root.cls ym_TL_root ym_TL_root ∈ zw_WS := zw_mem 470 (by decide +kernel) rfl
def ym_TL_knows : MethodName := ⟨"TwinLedgers", "knows", "(II)Z"⟩
abbrev bm_TL_knows : ByteArray := prog_1_method_15_code
theorem zk_TL_knows : Cond.code ym_TL_knows bm_TL_knows 3 (some .boolean) ∈ zw_WS ∧ Cond.initialized ym_TL_knows.cls ∈ zw_WS ∧ (ym_TL_knows.cls ≠ "java/lang/invoke/MethodHandle" ∧ ym_TL_knows.cls ≠ "java/lang/invoke/VarHandle" ∧ (parseMethodDescriptor ym_TL_knows.desc).map (fun d => d.parameters.length) = some 2) := ⟨zw_mem 487 (by decide +kernel) rfl, zw_mem 27 (by decide +kernel) rfl, by decide +kernel, by decide +kernel, by decide +kernel⟩
theorem za_TL_knows : Cond.instanceMethod ym_TL_knows ∈ zw_WS := zw_mem 485 (by decide +kernel) rfl
theorem zb_TL_knows : Cond.selects ym_TL_knows.cls ym_TL_knows ym_TL_knows ∈ zw_WS := zw_mem 486 (by decide +kernel) rfl
def ym_TL_end : MethodName := ⟨"TwinLedgers", "end", "(III)I"⟩
abbrev bm_TL_end : ByteArray := prog_1_method_16_code
theorem zk_TL_end : Cond.code ym_TL_end bm_TL_end 5 (some .int) ∈ zw_WS ∧ Cond.initialized ym_TL_end.cls ∈ zw_WS ∧ (ym_TL_end.cls ≠ "java/lang/invoke/MethodHandle" ∧ ym_TL_end.cls ≠ "java/lang/invoke/VarHandle" ∧ (parseMethodDescriptor ym_TL_end.desc).map (fun d => d.parameters.length) = some 3) := ⟨zw_mem 492 (by decide +kernel) rfl, zw_mem 27 (by decide +kernel) rfl, by decide +kernel, by decide +kernel, by decide +kernel⟩
theorem za_TL_end : Cond.instanceMethod ym_TL_end ∈ zw_WS := zw_mem 490 (by decide +kernel) rfl
theorem zb_TL_end : Cond.selects ym_TL_end.cls ym_TL_end ym_TL_end ∈ zw_WS := zw_mem 491 (by decide +kernel) rfl
def ym_TL_packet : MethodName := ⟨"TwinLedgers", "packet", "(III)I"⟩
abbrev bm_TL_packet : ByteArray := prog_1_method_17_code
theorem zk_TL_packet : Cond.code ym_TL_packet bm_TL_packet 4 (some .int) ∈ zw_WS ∧ Cond.initialized ym_TL_packet.cls ∈ zw_WS ∧ (ym_TL_packet.cls ≠ "java/lang/invoke/MethodHandle" ∧ ym_TL_packet.cls ≠ "java/lang/invoke/VarHandle" ∧ (parseMethodDescriptor ym_TL_packet.desc).map (fun d => d.parameters.length) = some 3) := ⟨zw_mem 499 (by decide +kernel) rfl, zw_mem 27 (by decide +kernel) rfl, by decide +kernel, by decide +kernel, by decide +kernel⟩
theorem za_TL_packet : Cond.instanceMethod ym_TL_packet ∈ zw_WS := zw_mem 497 (by decide +kernel) rfl
theorem zb_TL_packet : Cond.selects ym_TL_packet.cls ym_TL_packet ym_TL_packet ∈ zw_WS := zw_mem 498 (by decide +kernel) rfl
def ym_TL_limit : MethodName := ⟨"TwinLedgers", "limit", "(III)I"⟩
abbrev bm_TL_limit : ByteArray := prog_1_method_18_code
theorem zk_TL_limit : Cond.code ym_TL_limit bm_TL_limit 4 (some .int) ∈ zw_WS ∧ Cond.initialized ym_TL_limit.cls ∈ zw_WS ∧ (ym_TL_limit.cls ≠ "java/lang/invoke/MethodHandle" ∧ ym_TL_limit.cls ≠ "java/lang/invoke/VarHandle" ∧ (parseMethodDescriptor ym_TL_limit.desc).map (fun d => d.parameters.length) = some 3) := ⟨zw_mem 503 (by decide +kernel) rfl, zw_mem 27 (by decide +kernel) rfl, by decide +kernel, by decide +kernel, by decide +kernel⟩
theorem za_TL_limit : Cond.instanceMethod ym_TL_limit ∈ zw_WS := zw_mem 501 (by decide +kernel) rfl
theorem zb_TL_limit : Cond.selects ym_TL_limit.cls ym_TL_limit ym_TL_limit ∈ zw_WS := zw_mem 502 (by decide +kernel) rfl
def ym_TL_balance : MethodName := ⟨"TwinLedgers", "balance", "(III)I"⟩
abbrev bm_TL_balance : ByteArray := prog_1_method_19_code
theorem zk_TL_balance : Cond.code ym_TL_balance bm_TL_balance 4 (some .int) ∈ zw_WS ∧ Cond.initialized ym_TL_balance.cls ∈ zw_WS ∧ (ym_TL_balance.cls ≠ "java/lang/invoke/MethodHandle" ∧ ym_TL_balance.cls ≠ "java/lang/invoke/VarHandle" ∧ (parseMethodDescriptor ym_TL_balance.desc).map (fun d => d.parameters.length) = some 3) := ⟨zw_mem 507 (by decide +kernel) rfl, zw_mem 27 (by decide +kernel) rfl, by decide +kernel, by decide +kernel, by decide +kernel⟩
theorem za_TL_balance : Cond.instanceMethod ym_TL_balance ∈ zw_WS := zw_mem 505 (by decide +kernel) rfl
theorem zb_TL_balance : Cond.selects ym_TL_balance.cls ym_TL_balance ym_TL_balance ∈ zw_WS := zw_mem 506 (by decide +kernel) rfl
def ym_TL_escrow : MethodName := ⟨"TwinLedgers", "escrow", "(III)I"⟩
abbrev bm_TL_escrow : ByteArray := prog_1_method_20_code
theorem zk_TL_escrow : Cond.code ym_TL_escrow bm_TL_escrow 4 (some .int) ∈ zw_WS ∧ Cond.initialized ym_TL_escrow.cls ∈ zw_WS ∧ (ym_TL_escrow.cls ≠ "java/lang/invoke/MethodHandle" ∧ ym_TL_escrow.cls ≠ "java/lang/invoke/VarHandle" ∧ (parseMethodDescriptor ym_TL_escrow.desc).map (fun d => d.parameters.length) = some 3) := ⟨zw_mem 511 (by decide +kernel) rfl, zw_mem 27 (by decide +kernel) rfl, by decide +kernel, by decide +kernel, by decide +kernel⟩
theorem za_TL_escrow : Cond.instanceMethod ym_TL_escrow ∈ zw_WS := zw_mem 509 (by decide +kernel) rfl
theorem zb_TL_escrow : Cond.selects ym_TL_escrow.cls ym_TL_escrow ym_TL_escrow ∈ zw_WS := zw_mem 510 (by decide +kernel) rfl
def ym_TL_voucher : MethodName := ⟨"TwinLedgers", "voucher", "(II)I"⟩
abbrev bm_TL_voucher : ByteArray := prog_1_method_21_code
theorem zk_TL_voucher : Cond.code ym_TL_voucher bm_TL_voucher 3 (some .int) ∈ zw_WS ∧ Cond.initialized ym_TL_voucher.cls ∈ zw_WS ∧ (ym_TL_voucher.cls ≠ "java/lang/invoke/MethodHandle" ∧ ym_TL_voucher.cls ≠ "java/lang/invoke/VarHandle" ∧ (parseMethodDescriptor ym_TL_voucher.desc).map (fun d => d.parameters.length) = some 2) := ⟨zw_mem 515 (by decide +kernel) rfl, zw_mem 27 (by decide +kernel) rfl, by decide +kernel, by decide +kernel, by decide +kernel⟩
theorem za_TL_voucher : Cond.instanceMethod ym_TL_voucher ∈ zw_WS := zw_mem 513 (by decide +kernel) rfl
theorem zb_TL_voucher : Cond.selects ym_TL_voucher.cls ym_TL_voucher ym_TL_voucher ∈ zw_WS := zw_mem 514 (by decide +kernel) rfl
def ym_TL_isLedger : MethodName := ⟨"TwinLedgers", "isLedger", "(I)Z"⟩
abbrev bm_TL_isLedger : ByteArray := prog_1_method_22_code
theorem zk_TL_isLedger : Cond.code ym_TL_isLedger bm_TL_isLedger 1 (some .boolean) ∈ zw_WS ∧ Cond.initialized ym_TL_isLedger.cls ∈ zw_WS ∧ (ym_TL_isLedger.cls ≠ "java/lang/invoke/MethodHandle" ∧ ym_TL_isLedger.cls ≠ "java/lang/invoke/VarHandle" ∧ (parseMethodDescriptor ym_TL_isLedger.desc).map (fun d => d.parameters.length) = some 1) := ⟨zw_mem 214 (by decide +kernel) rfl, zw_mem 27 (by decide +kernel) rfl, by decide +kernel, by decide +kernel, by decide +kernel⟩
theorem za_TL_isLedger : Cond.static ym_TL_isLedger ∈ zw_WS := zw_mem 213 (by decide +kernel) rfl
def ym_TL_isEnd : MethodName := ⟨"TwinLedgers", "isEnd", "(II)Z"⟩
abbrev bm_TL_isEnd : ByteArray := prog_1_method_23_code
theorem zk_TL_isEnd : Cond.code ym_TL_isEnd bm_TL_isEnd 2 (some .boolean) ∈ zw_WS ∧ Cond.initialized ym_TL_isEnd.cls ∈ zw_WS ∧ (ym_TL_isEnd.cls ≠ "java/lang/invoke/MethodHandle" ∧ ym_TL_isEnd.cls ≠ "java/lang/invoke/VarHandle" ∧ (parseMethodDescriptor ym_TL_isEnd.desc).map (fun d => d.parameters.length) = some 2) := ⟨zw_mem 246 (by decide +kernel) rfl, zw_mem 27 (by decide +kernel) rfl, by decide +kernel, by decide +kernel, by decide +kernel⟩
theorem za_TL_isEnd : Cond.static ym_TL_isEnd ∈ zw_WS := zw_mem 245 (by decide +kernel) rfl
def ym_TL_isPacket : MethodName := ⟨"TwinLedgers", "isPacket", "(III)Z"⟩
abbrev bm_TL_isPacket : ByteArray := prog_1_method_24_code
theorem zk_TL_isPacket : Cond.code ym_TL_isPacket bm_TL_isPacket 4 (some .boolean) ∈ zw_WS ∧ Cond.initialized ym_TL_isPacket.cls ∈ zw_WS ∧ (ym_TL_isPacket.cls ≠ "java/lang/invoke/MethodHandle" ∧ ym_TL_isPacket.cls ≠ "java/lang/invoke/VarHandle" ∧ (parseMethodDescriptor ym_TL_isPacket.desc).map (fun d => d.parameters.length) = some 3) := ⟨zw_mem 371 (by decide +kernel) rfl, zw_mem 27 (by decide +kernel) rfl, by decide +kernel, by decide +kernel, by decide +kernel⟩
theorem za_TL_isPacket : Cond.instanceMethod ym_TL_isPacket ∈ zw_WS := zw_mem 370 (by decide +kernel) rfl
theorem zb_TL_isPacket : Cond.selects ym_TL_isPacket.cls ym_TL_isPacket ym_TL_isPacket ∈ zw_WS := zw_mem 5 (by decide +kernel) rfl
def ym_TL_relayPackets : MethodName := ⟨"TwinLedgers", "relayPackets", "(LTwinLedgers$Ledger;LTwinLedgers$Ledger;)I"⟩
abbrev bm_TL_relayPackets : ByteArray := prog_1_method_25_code
theorem zk_TL_relayPackets : Cond.code ym_TL_relayPackets bm_TL_relayPackets 6 (some .int) ∈ zw_WS ∧ Cond.initialized ym_TL_relayPackets.cls ∈ zw_WS ∧ (ym_TL_relayPackets.cls ≠ "java/lang/invoke/MethodHandle" ∧ ym_TL_relayPackets.cls ≠ "java/lang/invoke/VarHandle" ∧ (parseMethodDescriptor ym_TL_relayPackets.desc).map (fun d => d.parameters.length) = some 2) := ⟨zw_mem 457 (by decide +kernel) rfl, zw_mem 27 (by decide +kernel) rfl, by decide +kernel, by decide +kernel, by decide +kernel⟩
theorem za_TL_relayPackets : Cond.static ym_TL_relayPackets ∈ zw_WS := zw_mem 456 (by decide +kernel) rfl
def ym_TL_relayAnswers : MethodName := ⟨"TwinLedgers", "relayAnswers", "(LTwinLedgers$Ledger;LTwinLedgers$Ledger;)I"⟩
abbrev bm_TL_relayAnswers : ByteArray := prog_1_method_26_code
theorem zk_TL_relayAnswers : Cond.code ym_TL_relayAnswers bm_TL_relayAnswers 6 (some .int) ∈ zw_WS ∧ Cond.initialized ym_TL_relayAnswers.cls ∈ zw_WS ∧ (ym_TL_relayAnswers.cls ≠ "java/lang/invoke/MethodHandle" ∧ ym_TL_relayAnswers.cls ≠ "java/lang/invoke/VarHandle" ∧ (parseMethodDescriptor ym_TL_relayAnswers.desc).map (fun d => d.parameters.length) = some 2) := ⟨zw_mem 460 (by decide +kernel) rfl, zw_mem 27 (by decide +kernel) rfl, by decide +kernel, by decide +kernel, by decide +kernel⟩
theorem za_TL_relayAnswers : Cond.static ym_TL_relayAnswers ∈ zw_WS := zw_mem 459 (by decide +kernel) rfl
def ym_TL_relayTimeouts : MethodName := ⟨"TwinLedgers", "relayTimeouts", "(LTwinLedgers$Ledger;LTwinLedgers$Ledger;)I"⟩
abbrev bm_TL_relayTimeouts : ByteArray := prog_1_method_27_code
theorem zk_TL_relayTimeouts : Cond.code ym_TL_relayTimeouts bm_TL_relayTimeouts 6 (some .int) ∈ zw_WS ∧ Cond.initialized ym_TL_relayTimeouts.cls ∈ zw_WS ∧ (ym_TL_relayTimeouts.cls ≠ "java/lang/invoke/MethodHandle" ∧ ym_TL_relayTimeouts.cls ≠ "java/lang/invoke/VarHandle" ∧ (parseMethodDescriptor ym_TL_relayTimeouts.desc).map (fun d => d.parameters.length) = some 2) := ⟨zw_mem 463 (by decide +kernel) rfl, zw_mem 27 (by decide +kernel) rfl, by decide +kernel, by decide +kernel, by decide +kernel⟩
theorem za_TL_relayTimeouts : Cond.static ym_TL_relayTimeouts ∈ zw_WS := zw_mem 462 (by decide +kernel) rfl
def ym_TL_mix : MethodName := ⟨"TwinLedgers", "mix", "(II)I"⟩
abbrev bm_TL_mix : ByteArray := prog_1_method_28_code
theorem zk_TL_mix : Cond.code ym_TL_mix bm_TL_mix 3 (some .int) ∈ zw_WS ∧ Cond.initialized ym_TL_mix.cls ∈ zw_WS ∧ (ym_TL_mix.cls ≠ "java/lang/invoke/MethodHandle" ∧ ym_TL_mix.cls ≠ "java/lang/invoke/VarHandle" ∧ (parseMethodDescriptor ym_TL_mix.desc).map (fun d => d.parameters.length) = some 2) := ⟨zw_mem 362 (by decide +kernel) rfl, zw_mem 27 (by decide +kernel) rfl, by decide +kernel, by decide +kernel, by decide +kernel⟩
theorem za_TL_mix : Cond.static ym_TL_mix ∈ zw_WS := zw_mem 361 (by decide +kernel) rfl
def ym_Ledger_ctor : MethodName := ⟨"TwinLedgers$Ledger", "<init>", "()V"⟩
abbrev bm_Ledger_ctor : ByteArray := prog_5_method_1_code
theorem zk_Ledger_ctor : Cond.code ym_Ledger_ctor bm_Ledger_ctor 2 none ∈ zw_WS ∧ Cond.initialized ym_Ledger_ctor.cls ∈ zw_WS ∧ (ym_Ledger_ctor.cls ≠ "java/lang/invoke/MethodHandle" ∧ ym_Ledger_ctor.cls ≠ "java/lang/invoke/VarHandle" ∧ (parseMethodDescriptor ym_Ledger_ctor.desc).map (fun d => d.parameters.length) = some 0) := ⟨zw_mem 50 (by decide +kernel) rfl, zw_mem 28 (by decide +kernel) rfl, by decide +kernel, by decide +kernel, by decide +kernel⟩
theorem za_Ledger_ctor : Cond.instanceMethod ym_Ledger_ctor ∈ zw_WS := zw_mem 49 (by decide +kernel) rfl
def ym_Ledger_makeBlock : MethodName := ⟨"TwinLedgers$Ledger", "makeBlock", "()I"⟩
abbrev bm_Ledger_makeBlock : ByteArray := prog_5_method_2_code
theorem zk_Ledger_makeBlock : Cond.code ym_Ledger_makeBlock bm_Ledger_makeBlock 1 (some .int) ∈ zw_WS ∧ Cond.initialized ym_Ledger_makeBlock.cls ∈ zw_WS ∧ (ym_Ledger_makeBlock.cls ≠ "java/lang/invoke/MethodHandle" ∧ ym_Ledger_makeBlock.cls ≠ "java/lang/invoke/VarHandle" ∧ (parseMethodDescriptor ym_Ledger_makeBlock.desc).map (fun d => d.parameters.length) = some 0) := ⟨zw_mem 218 (by decide +kernel) rfl, zw_mem 28 (by decide +kernel) rfl, by decide +kernel, by decide +kernel, by decide +kernel⟩
theorem za_Ledger_makeBlock : Cond.instanceMethod ym_Ledger_makeBlock ∈ zw_WS := zw_mem 216 (by decide +kernel) rfl
theorem zb_Ledger_makeBlock : Cond.selects ym_Ledger_makeBlock.cls ym_Ledger_makeBlock ym_Ledger_makeBlock ∈ zw_WS := zw_mem 217 (by decide +kernel) rfl
def ym_Ledger_keeps : MethodName := ⟨"TwinLedgers$Ledger", "keeps", "(I)Z"⟩
abbrev bm_Ledger_keeps : ByteArray := prog_5_method_3_code
theorem zk_Ledger_keeps : Cond.code ym_Ledger_keeps bm_Ledger_keeps 2 (some .boolean) ∈ zw_WS ∧ Cond.initialized ym_Ledger_keeps.cls ∈ zw_WS ∧ (ym_Ledger_keeps.cls ≠ "java/lang/invoke/MethodHandle" ∧ ym_Ledger_keeps.cls ≠ "java/lang/invoke/VarHandle" ∧ (parseMethodDescriptor ym_Ledger_keeps.desc).map (fun d => d.parameters.length) = some 1) := ⟨zw_mem 304 (by decide +kernel) rfl, zw_mem 28 (by decide +kernel) rfl, by decide +kernel, by decide +kernel, by decide +kernel⟩
theorem za_Ledger_keeps : Cond.instanceMethod ym_Ledger_keeps ∈ zw_WS := zw_mem 302 (by decide +kernel) rfl
theorem zb_Ledger_keeps : Cond.selects ym_Ledger_keeps.cls ym_Ledger_keeps ym_Ledger_keeps ∈ zw_WS := zw_mem 303 (by decide +kernel) rfl
def ym_Ledger_rootAt : MethodName := ⟨"TwinLedgers$Ledger", "rootAt", "(I)I"⟩
abbrev bm_Ledger_rootAt : ByteArray := prog_5_method_4_code
theorem zk_Ledger_rootAt : Cond.code ym_Ledger_rootAt bm_Ledger_rootAt 2 (some .int) ∈ zw_WS ∧ Cond.initialized ym_Ledger_rootAt.cls ∈ zw_WS ∧ (ym_Ledger_rootAt.cls ≠ "java/lang/invoke/MethodHandle" ∧ ym_Ledger_rootAt.cls ≠ "java/lang/invoke/VarHandle" ∧ (parseMethodDescriptor ym_Ledger_rootAt.desc).map (fun d => d.parameters.length) = some 1) := ⟨zw_mem 475 (by decide +kernel) rfl, zw_mem 28 (by decide +kernel) rfl, by decide +kernel, by decide +kernel, by decide +kernel⟩
theorem za_Ledger_rootAt : Cond.instanceMethod ym_Ledger_rootAt ∈ zw_WS := zw_mem 473 (by decide +kernel) rfl
theorem zb_Ledger_rootAt : Cond.selects ym_Ledger_rootAt.cls ym_Ledger_rootAt ym_Ledger_rootAt ∈ zw_WS := zw_mem 474 (by decide +kernel) rfl
def ym_Ledger_stateOf : MethodName := ⟨"TwinLedgers$Ledger", "stateOf", "(I)I"⟩
abbrev bm_Ledger_stateOf : ByteArray := prog_5_method_5_code
theorem zk_Ledger_stateOf : Cond.code ym_Ledger_stateOf bm_Ledger_stateOf 2 (some .int) ∈ zw_WS ∧ Cond.initialized ym_Ledger_stateOf.cls ∈ zw_WS ∧ (ym_Ledger_stateOf.cls ≠ "java/lang/invoke/MethodHandle" ∧ ym_Ledger_stateOf.cls ≠ "java/lang/invoke/VarHandle" ∧ (parseMethodDescriptor ym_Ledger_stateOf.desc).map (fun d => d.parameters.length) = some 1) := ⟨zw_mem 254 (by decide +kernel) rfl, zw_mem 28 (by decide +kernel) rfl, by decide +kernel, by decide +kernel, by decide +kernel⟩
theorem za_Ledger_stateOf : Cond.instanceMethod ym_Ledger_stateOf ∈ zw_WS := zw_mem 252 (by decide +kernel) rfl
theorem zb_Ledger_stateOf : Cond.selects ym_Ledger_stateOf.cls ym_Ledger_stateOf ym_Ledger_stateOf ∈ zw_WS := zw_mem 253 (by decide +kernel) rfl
def ym_Ledger_orderOf : MethodName := ⟨"TwinLedgers$Ledger", "orderOf", "(I)I"⟩
abbrev bm_Ledger_orderOf : ByteArray := prog_5_method_6_code
theorem zk_Ledger_orderOf : Cond.code ym_Ledger_orderOf bm_Ledger_orderOf 2 (some .int) ∈ zw_WS ∧ Cond.initialized ym_Ledger_orderOf.cls ∈ zw_WS ∧ (ym_Ledger_orderOf.cls ≠ "java/lang/invoke/MethodHandle" ∧ ym_Ledger_orderOf.cls ≠ "java/lang/invoke/VarHandle" ∧ (parseMethodDescriptor ym_Ledger_orderOf.desc).map (fun d => d.parameters.length) = some 1) := ⟨zw_mem 284 (by decide +kernel) rfl, zw_mem 28 (by decide +kernel) rfl, by decide +kernel, by decide +kernel, by decide +kernel⟩
theorem za_Ledger_orderOf : Cond.instanceMethod ym_Ledger_orderOf ∈ zw_WS := zw_mem 282 (by decide +kernel) rfl
theorem zb_Ledger_orderOf : Cond.selects ym_Ledger_orderOf.cls ym_Ledger_orderOf ym_Ledger_orderOf ∈ zw_WS := zw_mem 283 (by decide +kernel) rfl
def ym_Ledger_isOrdered : MethodName := ⟨"TwinLedgers$Ledger", "isOrdered", "(I)Z"⟩
abbrev bm_Ledger_isOrdered : ByteArray := prog_5_method_7_code
theorem zk_Ledger_isOrdered : Cond.code ym_Ledger_isOrdered bm_Ledger_isOrdered 2 (some .boolean) ∈ zw_WS ∧ Cond.initialized ym_Ledger_isOrdered.cls ∈ zw_WS ∧ (ym_Ledger_isOrdered.cls ≠ "java/lang/invoke/MethodHandle" ∧ ym_Ledger_isOrdered.cls ≠ "java/lang/invoke/VarHandle" ∧ (parseMethodDescriptor ym_Ledger_isOrdered.desc).map (fun d => d.parameters.length) = some 1) := ⟨zw_mem 383 (by decide +kernel) rfl, zw_mem 28 (by decide +kernel) rfl, by decide +kernel, by decide +kernel, by decide +kernel⟩
theorem za_Ledger_isOrdered : Cond.instanceMethod ym_Ledger_isOrdered ∈ zw_WS := zw_mem 381 (by decide +kernel) rfl
theorem zb_Ledger_isOrdered : Cond.selects ym_Ledger_isOrdered.cls ym_Ledger_isOrdered ym_Ledger_isOrdered ∈ zw_WS := zw_mem 382 (by decide +kernel) rfl
def ym_Ledger_nextToReceive : MethodName := ⟨"TwinLedgers$Ledger", "nextToReceive", "(I)I"⟩
abbrev bm_Ledger_nextToReceive : ByteArray := prog_5_method_8_code
theorem zk_Ledger_nextToReceive : Cond.code ym_Ledger_nextToReceive bm_Ledger_nextToReceive 2 (some .int) ∈ zw_WS ∧ Cond.initialized ym_Ledger_nextToReceive.cls ∈ zw_WS ∧ (ym_Ledger_nextToReceive.cls ≠ "java/lang/invoke/MethodHandle" ∧ ym_Ledger_nextToReceive.cls ≠ "java/lang/invoke/VarHandle" ∧ (parseMethodDescriptor ym_Ledger_nextToReceive.desc).map (fun d => d.parameters.length) = some 1) := ⟨zw_mem 387 (by decide +kernel) rfl, zw_mem 28 (by decide +kernel) rfl, by decide +kernel, by decide +kernel, by decide +kernel⟩
theorem za_Ledger_nextToReceive : Cond.instanceMethod ym_Ledger_nextToReceive ∈ zw_WS := zw_mem 385 (by decide +kernel) rfl
theorem zb_Ledger_nextToReceive : Cond.selects ym_Ledger_nextToReceive.cls ym_Ledger_nextToReceive ym_Ledger_nextToReceive ∈ zw_WS := zw_mem 386 (by decide +kernel) rfl
def ym_Ledger_reach : MethodName := ⟨"TwinLedgers$Ledger", "reach", "(LTwinLedgers$Ledger;I)I"⟩
abbrev bm_Ledger_reach : ByteArray := prog_5_method_9_code
theorem zk_Ledger_reach : Cond.code ym_Ledger_reach bm_Ledger_reach 3 (some .int) ∈ zw_WS ∧ Cond.initialized ym_Ledger_reach.cls ∈ zw_WS ∧ (ym_Ledger_reach.cls ≠ "java/lang/invoke/MethodHandle" ∧ ym_Ledger_reach.cls ≠ "java/lang/invoke/VarHandle" ∧ (parseMethodDescriptor ym_Ledger_reach.desc).map (fun d => d.parameters.length) = some 2) := ⟨zw_mem 296 (by decide +kernel) rfl, zw_mem 28 (by decide +kernel) rfl, by decide +kernel, by decide +kernel, by decide +kernel⟩
theorem za_Ledger_reach : Cond.instanceMethod ym_Ledger_reach ∈ zw_WS := zw_mem 295 (by decide +kernel) rfl
theorem zb_Ledger_reach : Cond.selects ym_Ledger_reach.cls ym_Ledger_reach ym_Ledger_reach ∈ zw_WS := zw_mem 3 (by decide +kernel) rfl
def ym_Ledger_proveValue : MethodName := ⟨"TwinLedgers$Ledger", "proveValue", "(LTwinLedgers$Ledger;III)I"⟩
abbrev bm_Ledger_proveValue : ByteArray := prog_5_method_10_code
theorem zk_Ledger_proveValue : Cond.code ym_Ledger_proveValue bm_Ledger_proveValue 7 (some .int) ∈ zw_WS ∧ Cond.initialized ym_Ledger_proveValue.cls ∈ zw_WS ∧ (ym_Ledger_proveValue.cls ≠ "java/lang/invoke/MethodHandle" ∧ ym_Ledger_proveValue.cls ≠ "java/lang/invoke/VarHandle" ∧ (parseMethodDescriptor ym_Ledger_proveValue.desc).map (fun d => d.parameters.length) = some 4) := ⟨zw_mem 292 (by decide +kernel) rfl, zw_mem 28 (by decide +kernel) rfl, by decide +kernel, by decide +kernel, by decide +kernel⟩
theorem za_Ledger_proveValue : Cond.instanceMethod ym_Ledger_proveValue ∈ zw_WS := zw_mem 291 (by decide +kernel) rfl
theorem zb_Ledger_proveValue : Cond.selects ym_Ledger_proveValue.cls ym_Ledger_proveValue ym_Ledger_proveValue ∈ zw_WS := zw_mem 2 (by decide +kernel) rfl
def ym_Ledger_proveAbsence : MethodName := ⟨"TwinLedgers$Ledger", "proveAbsence", "(LTwinLedgers$Ledger;II)I"⟩
abbrev bm_Ledger_proveAbsence : ByteArray := prog_5_method_11_code
theorem zk_Ledger_proveAbsence : Cond.code ym_Ledger_proveAbsence bm_Ledger_proveAbsence 5 (some .int) ∈ zw_WS ∧ Cond.initialized ym_Ledger_proveAbsence.cls ∈ zw_WS ∧ (ym_Ledger_proveAbsence.cls ≠ "java/lang/invoke/MethodHandle" ∧ ym_Ledger_proveAbsence.cls ≠ "java/lang/invoke/VarHandle" ∧ (parseMethodDescriptor ym_Ledger_proveAbsence.desc).map (fun d => d.parameters.length) = some 3) := ⟨zw_mem 450 (by decide +kernel) rfl, zw_mem 28 (by decide +kernel) rfl, by decide +kernel, by decide +kernel, by decide +kernel⟩
theorem za_Ledger_proveAbsence : Cond.instanceMethod ym_Ledger_proveAbsence ∈ zw_WS := zw_mem 449 (by decide +kernel) rfl
theorem zb_Ledger_proveAbsence : Cond.selects ym_Ledger_proveAbsence.cls ym_Ledger_proveAbsence ym_Ledger_proveAbsence ∈ zw_WS := zw_mem 13 (by decide +kernel) rfl
def ym_Ledger_proveEnd : MethodName := ⟨"TwinLedgers$Ledger", "proveEnd", "(LTwinLedgers$Ledger;IIII)I"⟩
abbrev bm_Ledger_proveEnd : ByteArray := prog_5_method_12_code
theorem zk_Ledger_proveEnd : Cond.code ym_Ledger_proveEnd bm_Ledger_proveEnd 6 (some .int) ∈ zw_WS ∧ Cond.initialized ym_Ledger_proveEnd.cls ∈ zw_WS ∧ (ym_Ledger_proveEnd.cls ≠ "java/lang/invoke/MethodHandle" ∧ ym_Ledger_proveEnd.cls ≠ "java/lang/invoke/VarHandle" ∧ (parseMethodDescriptor ym_Ledger_proveEnd.desc).map (fun d => d.parameters.length) = some 5) := ⟨zw_mem 288 (by decide +kernel) rfl, zw_mem 28 (by decide +kernel) rfl, by decide +kernel, by decide +kernel, by decide +kernel⟩
theorem za_Ledger_proveEnd : Cond.instanceMethod ym_Ledger_proveEnd ∈ zw_WS := zw_mem 287 (by decide +kernel) rfl
theorem zb_Ledger_proveEnd : Cond.selects ym_Ledger_proveEnd.cls ym_Ledger_proveEnd ym_Ledger_proveEnd ∈ zw_WS := zw_mem 1 (by decide +kernel) rfl
def ym_Ledger_startEnd : MethodName := ⟨"TwinLedgers$Ledger", "startEnd", "(IZ)I"⟩
abbrev bm_Ledger_startEnd : ByteArray := prog_5_method_13_code
theorem zk_Ledger_startEnd : Cond.code ym_Ledger_startEnd bm_Ledger_startEnd 3 (some .int) ∈ zw_WS ∧ Cond.initialized ym_Ledger_startEnd.cls ∈ zw_WS ∧ (ym_Ledger_startEnd.cls ≠ "java/lang/invoke/MethodHandle" ∧ ym_Ledger_startEnd.cls ≠ "java/lang/invoke/VarHandle" ∧ (parseMethodDescriptor ym_Ledger_startEnd.desc).map (fun d => d.parameters.length) = some 2) := ⟨zw_mem 250 (by decide +kernel) rfl, zw_mem 28 (by decide +kernel) rfl, by decide +kernel, by decide +kernel, by decide +kernel⟩
theorem za_Ledger_startEnd : Cond.instanceMethod ym_Ledger_startEnd ∈ zw_WS := zw_mem 248 (by decide +kernel) rfl
theorem zb_Ledger_startEnd : Cond.selects ym_Ledger_startEnd.cls ym_Ledger_startEnd ym_Ledger_startEnd ∈ zw_WS := zw_mem 249 (by decide +kernel) rfl
def ym_Ledger_makeEnd : MethodName := ⟨"TwinLedgers$Ledger", "makeEnd", "(III)V"⟩
abbrev bm_Ledger_makeEnd : ByteArray := prog_5_method_14_code
theorem zk_Ledger_makeEnd : Cond.code ym_Ledger_makeEnd bm_Ledger_makeEnd 4 none ∈ zw_WS ∧ Cond.initialized ym_Ledger_makeEnd.cls ∈ zw_WS ∧ (ym_Ledger_makeEnd.cls ≠ "java/lang/invoke/MethodHandle" ∧ ym_Ledger_makeEnd.cls ≠ "java/lang/invoke/VarHandle" ∧ (parseMethodDescriptor ym_Ledger_makeEnd.desc).map (fun d => d.parameters.length) = some 3) := ⟨zw_mem 265 (by decide +kernel) rfl, zw_mem 28 (by decide +kernel) rfl, by decide +kernel, by decide +kernel, by decide +kernel⟩
theorem za_Ledger_makeEnd : Cond.instanceMethod ym_Ledger_makeEnd ∈ zw_WS := zw_mem 264 (by decide +kernel) rfl
theorem zb_Ledger_makeEnd : Cond.selects ym_Ledger_makeEnd.cls ym_Ledger_makeEnd ym_Ledger_makeEnd ∈ zw_WS := zw_mem 0 (by decide +kernel) rfl
def ym_Ledger_tryEnd : MethodName := ⟨"TwinLedgers$Ledger", "tryEnd", "(LTwinLedgers$Ledger;IZI)I"⟩
abbrev bm_Ledger_tryEnd : ByteArray := prog_5_method_15_code
theorem zk_Ledger_tryEnd : Cond.code ym_Ledger_tryEnd bm_Ledger_tryEnd 8 (some .int) ∈ zw_WS ∧ Cond.initialized ym_Ledger_tryEnd.cls ∈ zw_WS ∧ (ym_Ledger_tryEnd.cls ≠ "java/lang/invoke/MethodHandle" ∧ ym_Ledger_tryEnd.cls ≠ "java/lang/invoke/VarHandle" ∧ (parseMethodDescriptor ym_Ledger_tryEnd.desc).map (fun d => d.parameters.length) = some 4) := ⟨zw_mem 280 (by decide +kernel) rfl, zw_mem 28 (by decide +kernel) rfl, by decide +kernel, by decide +kernel, by decide +kernel⟩
theorem za_Ledger_tryEnd : Cond.instanceMethod ym_Ledger_tryEnd ∈ zw_WS := zw_mem 278 (by decide +kernel) rfl
theorem zb_Ledger_tryEnd : Cond.selects ym_Ledger_tryEnd.cls ym_Ledger_tryEnd ym_Ledger_tryEnd ∈ zw_WS := zw_mem 279 (by decide +kernel) rfl
def ym_Ledger_followEnd : MethodName := ⟨"TwinLedgers$Ledger", "followEnd", "(LTwinLedgers$Ledger;IIIII)I"⟩
abbrev bm_Ledger_followEnd : ByteArray := prog_5_method_16_code
theorem zk_Ledger_followEnd : Cond.code ym_Ledger_followEnd bm_Ledger_followEnd 8 (some .int) ∈ zw_WS ∧ Cond.initialized ym_Ledger_followEnd.cls ∈ zw_WS ∧ (ym_Ledger_followEnd.cls ≠ "java/lang/invoke/MethodHandle" ∧ ym_Ledger_followEnd.cls ≠ "java/lang/invoke/VarHandle" ∧ (parseMethodDescriptor ym_Ledger_followEnd.desc).map (fun d => d.parameters.length) = some 6) := ⟨zw_mem 316 (by decide +kernel) rfl, zw_mem 28 (by decide +kernel) rfl, by decide +kernel, by decide +kernel, by decide +kernel⟩
theorem za_Ledger_followEnd : Cond.instanceMethod ym_Ledger_followEnd ∈ zw_WS := zw_mem 314 (by decide +kernel) rfl
theorem zb_Ledger_followEnd : Cond.selects ym_Ledger_followEnd.cls ym_Ledger_followEnd ym_Ledger_followEnd ∈ zw_WS := zw_mem 315 (by decide +kernel) rfl
def ym_Ledger_closeEnd : MethodName := ⟨"TwinLedgers$Ledger", "closeEnd", "(I)I"⟩
abbrev bm_Ledger_closeEnd : ByteArray := prog_5_method_17_code
theorem zk_Ledger_closeEnd : Cond.code ym_Ledger_closeEnd bm_Ledger_closeEnd 2 (some .int) ∈ zw_WS ∧ Cond.initialized ym_Ledger_closeEnd.cls ∈ zw_WS ∧ (ym_Ledger_closeEnd.cls ≠ "java/lang/invoke/MethodHandle" ∧ ym_Ledger_closeEnd.cls ≠ "java/lang/invoke/VarHandle" ∧ (parseMethodDescriptor ym_Ledger_closeEnd.desc).map (fun d => d.parameters.length) = some 1) := ⟨zw_mem 328 (by decide +kernel) rfl, zw_mem 28 (by decide +kernel) rfl, by decide +kernel, by decide +kernel, by decide +kernel⟩
theorem za_Ledger_closeEnd : Cond.instanceMethod ym_Ledger_closeEnd ∈ zw_WS := zw_mem 326 (by decide +kernel) rfl
theorem zb_Ledger_closeEnd : Cond.selects ym_Ledger_closeEnd.cls ym_Ledger_closeEnd ym_Ledger_closeEnd ∈ zw_WS := zw_mem 327 (by decide +kernel) rfl
def ym_Ledger_moveEnd : MethodName := ⟨"TwinLedgers$Ledger", "moveEnd", "(II)V"⟩
abbrev bm_Ledger_moveEnd : ByteArray := prog_5_method_18_code
theorem zk_Ledger_moveEnd : Cond.code ym_Ledger_moveEnd bm_Ledger_moveEnd 3 none ∈ zw_WS ∧ Cond.initialized ym_Ledger_moveEnd.cls ∈ zw_WS ∧ (ym_Ledger_moveEnd.cls ≠ "java/lang/invoke/MethodHandle" ∧ ym_Ledger_moveEnd.cls ≠ "java/lang/invoke/VarHandle" ∧ (parseMethodDescriptor ym_Ledger_moveEnd.desc).map (fun d => d.parameters.length) = some 2) := ⟨zw_mem 320 (by decide +kernel) rfl, zw_mem 28 (by decide +kernel) rfl, by decide +kernel, by decide +kernel, by decide +kernel⟩
theorem za_Ledger_moveEnd : Cond.instanceMethod ym_Ledger_moveEnd ∈ zw_WS := zw_mem 319 (by decide +kernel) rfl
theorem zb_Ledger_moveEnd : Cond.selects ym_Ledger_moveEnd.cls ym_Ledger_moveEnd ym_Ledger_moveEnd ∈ zw_WS := zw_mem 4 (by decide +kernel) rfl
def ym_Ledger_sendPacket : MethodName := ⟨"TwinLedgers$Ledger", "sendPacket", "(IIIII)I"⟩
abbrev bm_Ledger_sendPacket : ByteArray := prog_5_method_19_code
theorem zk_Ledger_sendPacket : Cond.code ym_Ledger_sendPacket bm_Ledger_sendPacket 9 (some .int) ∈ zw_WS ∧ Cond.initialized ym_Ledger_sendPacket.cls ∈ zw_WS ∧ (ym_Ledger_sendPacket.cls ≠ "java/lang/invoke/MethodHandle" ∧ ym_Ledger_sendPacket.cls ≠ "java/lang/invoke/VarHandle" ∧ (parseMethodDescriptor ym_Ledger_sendPacket.desc).map (fun d => d.parameters.length) = some 5) := ⟨zw_mem 340 (by decide +kernel) rfl, zw_mem 28 (by decide +kernel) rfl, by decide +kernel, by decide +kernel, by decide +kernel⟩
theorem za_Ledger_sendPacket : Cond.instanceMethod ym_Ledger_sendPacket ∈ zw_WS := zw_mem 338 (by decide +kernel) rfl
theorem zb_Ledger_sendPacket : Cond.selects ym_Ledger_sendPacket.cls ym_Ledger_sendPacket ym_Ledger_sendPacket ∈ zw_WS := zw_mem 339 (by decide +kernel) rfl
def ym_Ledger_receivePacket : MethodName := ⟨"TwinLedgers$Ledger", "receivePacket", "(LTwinLedgers$Ledger;IIIZ)I"⟩
abbrev bm_Ledger_receivePacket : ByteArray := prog_5_method_20_code
theorem zk_Ledger_receivePacket : Cond.code ym_Ledger_receivePacket bm_Ledger_receivePacket 10 (some .int) ∈ zw_WS ∧ Cond.initialized ym_Ledger_receivePacket.cls ∈ zw_WS ∧ (ym_Ledger_receivePacket.cls ≠ "java/lang/invoke/MethodHandle" ∧ ym_Ledger_receivePacket.cls ≠ "java/lang/invoke/VarHandle" ∧ (parseMethodDescriptor ym_Ledger_receivePacket.desc).map (fun d => d.parameters.length) = some 5) := ⟨zw_mem 375 (by decide +kernel) rfl, zw_mem 28 (by decide +kernel) rfl, by decide +kernel, by decide +kernel, by decide +kernel⟩
theorem za_Ledger_receivePacket : Cond.instanceMethod ym_Ledger_receivePacket ∈ zw_WS := zw_mem 373 (by decide +kernel) rfl
theorem zb_Ledger_receivePacket : Cond.selects ym_Ledger_receivePacket.cls ym_Ledger_receivePacket ym_Ledger_receivePacket ∈ zw_WS := zw_mem 374 (by decide +kernel) rfl
def ym_Ledger_isReceivable : MethodName := ⟨"TwinLedgers$Ledger", "isReceivable", "(II)Z"⟩
abbrev bm_Ledger_isReceivable : ByteArray := prog_5_method_21_code
theorem zk_Ledger_isReceivable : Cond.code ym_Ledger_isReceivable bm_Ledger_isReceivable 3 (some .boolean) ∈ zw_WS ∧ Cond.initialized ym_Ledger_isReceivable.cls ∈ zw_WS ∧ (ym_Ledger_isReceivable.cls ≠ "java/lang/invoke/MethodHandle" ∧ ym_Ledger_isReceivable.cls ≠ "java/lang/invoke/VarHandle" ∧ (parseMethodDescriptor ym_Ledger_isReceivable.desc).map (fun d => d.parameters.length) = some 2) := ⟨zw_mem 379 (by decide +kernel) rfl, zw_mem 28 (by decide +kernel) rfl, by decide +kernel, by decide +kernel, by decide +kernel⟩
theorem za_Ledger_isReceivable : Cond.instanceMethod ym_Ledger_isReceivable ∈ zw_WS := zw_mem 378 (by decide +kernel) rfl
theorem zb_Ledger_isReceivable : Cond.selects ym_Ledger_isReceivable.cls ym_Ledger_isReceivable ym_Ledger_isReceivable ∈ zw_WS := zw_mem 6 (by decide +kernel) rfl
def ym_Ledger_noteReceived : MethodName := ⟨"TwinLedgers$Ledger", "noteReceived", "(III)V"⟩
abbrev bm_Ledger_noteReceived : ByteArray := prog_5_method_22_code
theorem zk_Ledger_noteReceived : Cond.code ym_Ledger_noteReceived bm_Ledger_noteReceived 4 none ∈ zw_WS ∧ Cond.initialized ym_Ledger_noteReceived.cls ∈ zw_WS ∧ (ym_Ledger_noteReceived.cls ≠ "java/lang/invoke/MethodHandle" ∧ ym_Ledger_noteReceived.cls ≠ "java/lang/invoke/VarHandle" ∧ (parseMethodDescriptor ym_Ledger_noteReceived.desc).map (fun d => d.parameters.length) = some 3) := ⟨zw_mem 411 (by decide +kernel) rfl, zw_mem 28 (by decide +kernel) rfl, by decide +kernel, by decide +kernel, by decide +kernel⟩
theorem za_Ledger_noteReceived : Cond.instanceMethod ym_Ledger_noteReceived ∈ zw_WS := zw_mem 410 (by decide +kernel) rfl
theorem zb_Ledger_noteReceived : Cond.selects ym_Ledger_noteReceived.cls ym_Ledger_noteReceived ym_Ledger_noteReceived ∈ zw_WS := zw_mem 10 (by decide +kernel) rfl
def ym_Ledger_settleAnswered : MethodName := ⟨"TwinLedgers$Ledger", "settleAnswered", "(LTwinLedgers$Ledger;III)I"⟩
abbrev bm_Ledger_settleAnswered : ByteArray := prog_5_method_23_code
theorem zk_Ledger_settleAnswered : Cond.code ym_Ledger_settleAnswered bm_Ledger_settleAnswered 10 (some .int) ∈ zw_WS ∧ Cond.initialized ym_Ledger_settleAnswered.cls ∈ zw_WS ∧ (ym_Ledger_settleAnswered.cls ≠ "java/lang/invoke/MethodHandle" ∧ ym_Ledger_settleAnswered.cls ≠ "java/lang/invoke/VarHandle" ∧ (parseMethodDescriptor ym_Ledger_settleAnswered.desc).map (fun d => d.parameters.length) = some 4) := ⟨zw_mem 422 (by decide +kernel) rfl, zw_mem 28 (by decide +kernel) rfl, by decide +kernel, by decide +kernel, by decide +kernel⟩
theorem za_Ledger_settleAnswered : Cond.instanceMethod ym_Ledger_settleAnswered ∈ zw_WS := zw_mem 420 (by decide +kernel) rfl
theorem zb_Ledger_settleAnswered : Cond.selects ym_Ledger_settleAnswered.cls ym_Ledger_settleAnswered ym_Ledger_settleAnswered ∈ zw_WS := zw_mem 421 (by decide +kernel) rfl
def ym_Ledger_settleTimedOut : MethodName := ⟨"TwinLedgers$Ledger", "settleTimedOut", "(LTwinLedgers$Ledger;IIIZ)I"⟩
abbrev bm_Ledger_settleTimedOut : ByteArray := prog_5_method_24_code
theorem zk_Ledger_settleTimedOut : Cond.code ym_Ledger_settleTimedOut bm_Ledger_settleTimedOut 8 (some .int) ∈ zw_WS ∧ Cond.initialized ym_Ledger_settleTimedOut.cls ∈ zw_WS ∧ (ym_Ledger_settleTimedOut.cls ≠ "java/lang/invoke/MethodHandle" ∧ ym_Ledger_settleTimedOut.cls ≠ "java/lang/invoke/VarHandle" ∧ (parseMethodDescriptor ym_Ledger_settleTimedOut.desc).map (fun d => d.parameters.length) = some 5) := ⟨zw_mem 442 (by decide +kernel) rfl, zw_mem 28 (by decide +kernel) rfl, by decide +kernel, by decide +kernel, by decide +kernel⟩
theorem za_Ledger_settleTimedOut : Cond.instanceMethod ym_Ledger_settleTimedOut ∈ zw_WS := zw_mem 440 (by decide +kernel) rfl
theorem zb_Ledger_settleTimedOut : Cond.selects ym_Ledger_settleTimedOut.cls ym_Ledger_settleTimedOut ym_Ledger_settleTimedOut ∈ zw_WS := zw_mem 441 (by decide +kernel) rfl
def ym_Ledger_proveNotReceived : MethodName := ⟨"TwinLedgers$Ledger", "proveNotReceived", "(LTwinLedgers$Ledger;III)I"⟩
abbrev bm_Ledger_proveNotReceived : ByteArray := prog_5_method_25_code
theorem zk_Ledger_proveNotReceived : Cond.code ym_Ledger_proveNotReceived bm_Ledger_proveNotReceived 6 (some .int) ∈ zw_WS ∧ Cond.initialized ym_Ledger_proveNotReceived.cls ∈ zw_WS ∧ (ym_Ledger_proveNotReceived.cls ≠ "java/lang/invoke/MethodHandle" ∧ ym_Ledger_proveNotReceived.cls ≠ "java/lang/invoke/VarHandle" ∧ (parseMethodDescriptor ym_Ledger_proveNotReceived.desc).map (fun d => d.parameters.length) = some 4) := ⟨zw_mem 446 (by decide +kernel) rfl, zw_mem 28 (by decide +kernel) rfl, by decide +kernel, by decide +kernel, by decide +kernel⟩
theorem za_Ledger_proveNotReceived : Cond.instanceMethod ym_Ledger_proveNotReceived ∈ zw_WS := zw_mem 445 (by decide +kernel) rfl
theorem zb_Ledger_proveNotReceived : Cond.selects ym_Ledger_proveNotReceived.cls ym_Ledger_proveNotReceived ym_Ledger_proveNotReceived ∈ zw_WS := zw_mem 12 (by decide +kernel) rfl
def ym_Ledger_settle : MethodName := ⟨"TwinLedgers$Ledger", "settle", "(III)V"⟩
abbrev bm_Ledger_settle : ByteArray := prog_5_method_26_code
theorem zk_Ledger_settle : Cond.code ym_Ledger_settle bm_Ledger_settle 5 none ∈ zw_WS ∧ Cond.initialized ym_Ledger_settle.cls ∈ zw_WS ∧ (ym_Ledger_settle.cls ≠ "java/lang/invoke/MethodHandle" ∧ ym_Ledger_settle.cls ≠ "java/lang/invoke/VarHandle" ∧ (parseMethodDescriptor ym_Ledger_settle.desc).map (fun d => d.parameters.length) = some 3) := ⟨zw_mem 426 (by decide +kernel) rfl, zw_mem 28 (by decide +kernel) rfl, by decide +kernel, by decide +kernel, by decide +kernel⟩
theorem za_Ledger_settle : Cond.instanceMethod ym_Ledger_settle ∈ zw_WS := zw_mem 425 (by decide +kernel) rfl
theorem zb_Ledger_settle : Cond.selects ym_Ledger_settle.cls ym_Ledger_settle ym_Ledger_settle ∈ zw_WS := zw_mem 11 (by decide +kernel) rfl
def ym_Store_ctor : MethodName := ⟨"TwinLedgers$Store", "<init>", "()V"⟩
abbrev bm_Store_ctor : ByteArray := prog_7_method_1_code
theorem zk_Store_ctor : Cond.code ym_Store_ctor bm_Store_ctor 1 none ∈ zw_WS ∧ Cond.initialized ym_Store_ctor.cls ∈ zw_WS ∧ (ym_Store_ctor.cls ≠ "java/lang/invoke/MethodHandle" ∧ ym_Store_ctor.cls ≠ "java/lang/invoke/VarHandle" ∧ (parseMethodDescriptor ym_Store_ctor.desc).map (fun d => d.parameters.length) = some 0) := ⟨zw_mem 56 (by decide +kernel) rfl, zw_mem 29 (by decide +kernel) rfl, by decide +kernel, by decide +kernel, by decide +kernel⟩
theorem za_Store_ctor : Cond.instanceMethod ym_Store_ctor ∈ zw_WS := zw_mem 55 (by decide +kernel) rfl
def ym_Store_endSlot : MethodName := ⟨"TwinLedgers$Store", "endSlot", "(I)I"⟩
abbrev bm_Store_endSlot : ByteArray := prog_7_method_2_code
theorem zk_Store_endSlot : Cond.code ym_Store_endSlot bm_Store_endSlot 1 (some .int) ∈ zw_WS ∧ Cond.initialized ym_Store_endSlot.cls ∈ zw_WS ∧ (ym_Store_endSlot.cls ≠ "java/lang/invoke/MethodHandle" ∧ ym_Store_endSlot.cls ≠ "java/lang/invoke/VarHandle" ∧ (parseMethodDescriptor ym_Store_endSlot.desc).map (fun d => d.parameters.length) = some 1) := ⟨zw_mem 257 (by decide +kernel) rfl, zw_mem 29 (by decide +kernel) rfl, by decide +kernel, by decide +kernel, by decide +kernel⟩
theorem za_Store_endSlot : Cond.static ym_Store_endSlot ∈ zw_WS := zw_mem 256 (by decide +kernel) rfl
def ym_Store_nextSlot : MethodName := ⟨"TwinLedgers$Store", "nextSlot", "(I)I"⟩
abbrev bm_Store_nextSlot : ByteArray := prog_7_method_3_code
theorem zk_Store_nextSlot : Cond.code ym_Store_nextSlot bm_Store_nextSlot 1 (some .int) ∈ zw_WS ∧ Cond.initialized ym_Store_nextSlot.cls ∈ zw_WS ∧ (ym_Store_nextSlot.cls ≠ "java/lang/invoke/MethodHandle" ∧ ym_Store_nextSlot.cls ≠ "java/lang/invoke/VarHandle" ∧ (parseMethodDescriptor ym_Store_nextSlot.desc).map (fun d => d.parameters.length) = some 1) := ⟨zw_mem 272 (by decide +kernel) rfl, zw_mem 29 (by decide +kernel) rfl, by decide +kernel, by decide +kernel, by decide +kernel⟩
theorem za_Store_nextSlot : Cond.static ym_Store_nextSlot ∈ zw_WS := zw_mem 271 (by decide +kernel) rfl
def ym_Store_printSlot : MethodName := ⟨"TwinLedgers$Store", "printSlot", "(II)I"⟩
abbrev bm_Store_printSlot : ByteArray := prog_7_method_4_code
theorem zk_Store_printSlot : Cond.code ym_Store_printSlot bm_Store_printSlot 2 (some .int) ∈ zw_WS ∧ Cond.initialized ym_Store_printSlot.cls ∈ zw_WS ∧ (ym_Store_printSlot.cls ≠ "java/lang/invoke/MethodHandle" ∧ ym_Store_printSlot.cls ≠ "java/lang/invoke/VarHandle" ∧ (parseMethodDescriptor ym_Store_printSlot.desc).map (fun d => d.parameters.length) = some 2) := ⟨zw_mem 355 (by decide +kernel) rfl, zw_mem 29 (by decide +kernel) rfl, by decide +kernel, by decide +kernel, by decide +kernel⟩
theorem za_Store_printSlot : Cond.static ym_Store_printSlot ∈ zw_WS := zw_mem 354 (by decide +kernel) rfl
def ym_Store_receiptSlot : MethodName := ⟨"TwinLedgers$Store", "receiptSlot", "(II)I"⟩
abbrev bm_Store_receiptSlot : ByteArray := prog_7_method_5_code
theorem zk_Store_receiptSlot : Cond.code ym_Store_receiptSlot bm_Store_receiptSlot 2 (some .int) ∈ zw_WS ∧ Cond.initialized ym_Store_receiptSlot.cls ∈ zw_WS ∧ (ym_Store_receiptSlot.cls ≠ "java/lang/invoke/MethodHandle" ∧ ym_Store_receiptSlot.cls ≠ "java/lang/invoke/VarHandle" ∧ (parseMethodDescriptor ym_Store_receiptSlot.desc).map (fun d => d.parameters.length) = some 2) := ⟨zw_mem 391 (by decide +kernel) rfl, zw_mem 29 (by decide +kernel) rfl, by decide +kernel, by decide +kernel, by decide +kernel⟩
theorem za_Store_receiptSlot : Cond.static ym_Store_receiptSlot ∈ zw_WS := zw_mem 390 (by decide +kernel) rfl
def ym_Store_answerSlot : MethodName := ⟨"TwinLedgers$Store", "answerSlot", "(II)I"⟩
abbrev bm_Store_answerSlot : ByteArray := prog_7_method_6_code
theorem zk_Store_answerSlot : Cond.code ym_Store_answerSlot bm_Store_answerSlot 2 (some .int) ∈ zw_WS ∧ Cond.initialized ym_Store_answerSlot.cls ∈ zw_WS ∧ (ym_Store_answerSlot.cls ≠ "java/lang/invoke/MethodHandle" ∧ ym_Store_answerSlot.cls ≠ "java/lang/invoke/VarHandle" ∧ (parseMethodDescriptor ym_Store_answerSlot.desc).map (fun d => d.parameters.length) = some 2) := ⟨zw_mem 414 (by decide +kernel) rfl, zw_mem 29 (by decide +kernel) rfl, by decide +kernel, by decide +kernel, by decide +kernel⟩
theorem za_Store_answerSlot : Cond.static ym_Store_answerSlot ∈ zw_WS := zw_mem 413 (by decide +kernel) rfl
def ym_Store_keyOf : MethodName := ⟨"TwinLedgers$Store", "keyOf", "(I)I"⟩
abbrev bm_Store_keyOf : ByteArray := prog_7_method_7_code
theorem zk_Store_keyOf : Cond.code ym_Store_keyOf bm_Store_keyOf 5 (some .int) ∈ zw_WS ∧ Cond.initialized ym_Store_keyOf.cls ∈ zw_WS ∧ (ym_Store_keyOf.cls ≠ "java/lang/invoke/MethodHandle" ∧ ym_Store_keyOf.cls ≠ "java/lang/invoke/VarHandle" ∧ (parseMethodDescriptor ym_Store_keyOf.desc).map (fun d => d.parameters.length) = some 1) := ⟨zw_mem 482 (by decide +kernel) rfl, zw_mem 29 (by decide +kernel) rfl, by decide +kernel, by decide +kernel, by decide +kernel⟩
theorem za_Store_keyOf : Cond.static ym_Store_keyOf ∈ zw_WS := zw_mem 481 (by decide +kernel) rfl
def ym_Store_put : MethodName := ⟨"TwinLedgers$Store", "put", "(II)V"⟩
abbrev bm_Store_put : ByteArray := prog_7_method_8_code
theorem zk_Store_put : Cond.code ym_Store_put bm_Store_put 3 none ∈ zw_WS ∧ Cond.initialized ym_Store_put.cls ∈ zw_WS ∧ (ym_Store_put.cls ≠ "java/lang/invoke/MethodHandle" ∧ ym_Store_put.cls ≠ "java/lang/invoke/VarHandle" ∧ (parseMethodDescriptor ym_Store_put.desc).map (fun d => d.parameters.length) = some 2) := ⟨zw_mem 269 (by decide +kernel) rfl, zw_mem 29 (by decide +kernel) rfl, by decide +kernel, by decide +kernel, by decide +kernel⟩
theorem za_Store_put : Cond.instanceMethod ym_Store_put ∈ zw_WS := zw_mem 267 (by decide +kernel) rfl
theorem zb_Store_put : Cond.selects ym_Store_put.cls ym_Store_put ym_Store_put ∈ zw_WS := zw_mem 268 (by decide +kernel) rfl
def ym_Store_drop : MethodName := ⟨"TwinLedgers$Store", "drop", "(I)V"⟩
abbrev bm_Store_drop : ByteArray := prog_7_method_9_code
theorem zk_Store_drop : Cond.code ym_Store_drop bm_Store_drop 2 none ∈ zw_WS ∧ Cond.initialized ym_Store_drop.cls ∈ zw_WS ∧ (ym_Store_drop.cls ≠ "java/lang/invoke/MethodHandle" ∧ ym_Store_drop.cls ≠ "java/lang/invoke/VarHandle" ∧ (parseMethodDescriptor ym_Store_drop.desc).map (fun d => d.parameters.length) = some 1) := ⟨zw_mem 430 (by decide +kernel) rfl, zw_mem 29 (by decide +kernel) rfl, by decide +kernel, by decide +kernel, by decide +kernel⟩
theorem za_Store_drop : Cond.instanceMethod ym_Store_drop ∈ zw_WS := zw_mem 428 (by decide +kernel) rfl
theorem zb_Store_drop : Cond.selects ym_Store_drop.cls ym_Store_drop ym_Store_drop ∈ zw_WS := zw_mem 429 (by decide +kernel) rfl
def ym_Store_has : MethodName := ⟨"TwinLedgers$Store", "has", "(I)Z"⟩
abbrev bm_Store_has : ByteArray := prog_7_method_10_code
theorem zk_Store_has : Cond.code ym_Store_has bm_Store_has 2 (some .boolean) ∈ zw_WS ∧ Cond.initialized ym_Store_has.cls ∈ zw_WS ∧ (ym_Store_has.cls ≠ "java/lang/invoke/MethodHandle" ∧ ym_Store_has.cls ≠ "java/lang/invoke/VarHandle" ∧ (parseMethodDescriptor ym_Store_has.desc).map (fun d => d.parameters.length) = some 1) := ⟨zw_mem 308 (by decide +kernel) rfl, zw_mem 29 (by decide +kernel) rfl, by decide +kernel, by decide +kernel, by decide +kernel⟩
theorem za_Store_has : Cond.instanceMethod ym_Store_has ∈ zw_WS := zw_mem 306 (by decide +kernel) rfl
theorem zb_Store_has : Cond.selects ym_Store_has.cls ym_Store_has ym_Store_has ∈ zw_WS := zw_mem 307 (by decide +kernel) rfl
def ym_Store_valueIn : MethodName := ⟨"TwinLedgers$Store", "valueIn", "(I)I"⟩
abbrev bm_Store_valueIn : ByteArray := prog_7_method_11_code
theorem zk_Store_valueIn : Cond.code ym_Store_valueIn bm_Store_valueIn 2 (some .int) ∈ zw_WS ∧ Cond.initialized ym_Store_valueIn.cls ∈ zw_WS ∧ (ym_Store_valueIn.cls ≠ "java/lang/invoke/MethodHandle" ∧ ym_Store_valueIn.cls ≠ "java/lang/invoke/VarHandle" ∧ (parseMethodDescriptor ym_Store_valueIn.desc).map (fun d => d.parameters.length) = some 1) := ⟨zw_mem 261 (by decide +kernel) rfl, zw_mem 29 (by decide +kernel) rfl, by decide +kernel, by decide +kernel, by decide +kernel⟩
theorem za_Store_valueIn : Cond.instanceMethod ym_Store_valueIn ∈ zw_WS := zw_mem 259 (by decide +kernel) rfl
theorem zb_Store_valueIn : Cond.selects ym_Store_valueIn.cls ym_Store_valueIn ym_Store_valueIn ∈ zw_WS := zw_mem 260 (by decide +kernel) rfl
def ym_Store_copyFrom : MethodName := ⟨"TwinLedgers$Store", "copyFrom", "(LTwinLedgers$Store;)V"⟩
abbrev bm_Store_copyFrom : ByteArray := prog_7_method_12_code
theorem zk_Store_copyFrom : Cond.code ym_Store_copyFrom bm_Store_copyFrom 3 none ∈ zw_WS ∧ Cond.initialized ym_Store_copyFrom.cls ∈ zw_WS ∧ (ym_Store_copyFrom.cls ≠ "java/lang/invoke/MethodHandle" ∧ ym_Store_copyFrom.cls ≠ "java/lang/invoke/VarHandle" ∧ (parseMethodDescriptor ym_Store_copyFrom.desc).map (fun d => d.parameters.length) = some 1) := ⟨zw_mem 222 (by decide +kernel) rfl, zw_mem 29 (by decide +kernel) rfl, by decide +kernel, by decide +kernel, by decide +kernel⟩
theorem za_Store_copyFrom : Cond.instanceMethod ym_Store_copyFrom ∈ zw_WS := zw_mem 220 (by decide +kernel) rfl
theorem zb_Store_copyFrom : Cond.selects ym_Store_copyFrom.cls ym_Store_copyFrom ym_Store_copyFrom ∈ zw_WS := zw_mem 221 (by decide +kernel) rfl
def ym_Store_rootBy : MethodName := ⟨"TwinLedgers$Store", "rootBy", "([I)I"⟩
abbrev bm_Store_rootBy : ByteArray := prog_7_method_13_code
theorem zk_Store_rootBy : Cond.code ym_Store_rootBy bm_Store_rootBy 5 (some .int) ∈ zw_WS ∧ Cond.initialized ym_Store_rootBy.cls ∈ zw_WS ∧ (ym_Store_rootBy.cls ≠ "java/lang/invoke/MethodHandle" ∧ ym_Store_rootBy.cls ≠ "java/lang/invoke/VarHandle" ∧ (parseMethodDescriptor ym_Store_rootBy.desc).map (fun d => d.parameters.length) = some 1) := ⟨zw_mem 479 (by decide +kernel) rfl, zw_mem 29 (by decide +kernel) rfl, by decide +kernel, by decide +kernel, by decide +kernel⟩
theorem za_Store_rootBy : Cond.instanceMethod ym_Store_rootBy ∈ zw_WS := zw_mem 477 (by decide +kernel) rfl
theorem zb_Store_rootBy : Cond.selects ym_Store_rootBy.cls ym_Store_rootBy ym_Store_rootBy ∈ zw_WS := zw_mem 478 (by decide +kernel) rfl
def ym_Client_ctor : MethodName := ⟨"TwinLedgers$Client", "<init>", "()V"⟩
abbrev bm_Client_ctor : ByteArray := prog_3_method_1_code
theorem zk_Client_ctor : Cond.code ym_Client_ctor bm_Client_ctor 1 none ∈ zw_WS ∧ Cond.initialized ym_Client_ctor.cls ∈ zw_WS ∧ (ym_Client_ctor.cls ≠ "java/lang/invoke/MethodHandle" ∧ ym_Client_ctor.cls ≠ "java/lang/invoke/VarHandle" ∧ (parseMethodDescriptor ym_Client_ctor.desc).map (fun d => d.parameters.length) = some 0) := ⟨zw_mem 72 (by decide +kernel) rfl, zw_mem 30 (by decide +kernel) rfl, by decide +kernel, by decide +kernel, by decide +kernel⟩
theorem za_Client_ctor : Cond.instanceMethod ym_Client_ctor ∈ zw_WS := zw_mem 71 (by decide +kernel) rfl
def ym_Client_learn : MethodName := ⟨"TwinLedgers$Client", "learn", "(I)V"⟩
abbrev bm_Client_learn : ByteArray := prog_3_method_2_code
theorem zk_Client_learn : Cond.code ym_Client_learn bm_Client_learn 2 none ∈ zw_WS ∧ Cond.initialized ym_Client_learn.cls ∈ zw_WS ∧ (ym_Client_learn.cls ≠ "java/lang/invoke/MethodHandle" ∧ ym_Client_learn.cls ≠ "java/lang/invoke/VarHandle" ∧ (parseMethodDescriptor ym_Client_learn.desc).map (fun d => d.parameters.length) = some 1) := ⟨zw_mem 236 (by decide +kernel) rfl, zw_mem 30 (by decide +kernel) rfl, by decide +kernel, by decide +kernel, by decide +kernel⟩
theorem za_Client_learn : Cond.instanceMethod ym_Client_learn ∈ zw_WS := zw_mem 234 (by decide +kernel) rfl
theorem zb_Client_learn : Cond.selects ym_Client_learn.cls ym_Client_learn ym_Client_learn ∈ zw_WS := zw_mem 235 (by decide +kernel) rfl
def ym_Client_hasHeader : MethodName := ⟨"TwinLedgers$Client", "hasHeader", "(I)Z"⟩
abbrev bm_Client_hasHeader : ByteArray := prog_3_method_3_code
theorem zk_Client_hasHeader : Cond.code ym_Client_hasHeader bm_Client_hasHeader 2 (some .boolean) ∈ zw_WS ∧ Cond.initialized ym_Client_hasHeader.cls ∈ zw_WS ∧ (ym_Client_hasHeader.cls ≠ "java/lang/invoke/MethodHandle" ∧ ym_Client_hasHeader.cls ≠ "java/lang/invoke/VarHandle" ∧ (parseMethodDescriptor ym_Client_hasHeader.desc).map (fun d => d.parameters.length) = some 1) := ⟨zw_mem 300 (by decide +kernel) rfl, zw_mem 30 (by decide +kernel) rfl, by decide +kernel, by decide +kernel, by decide +kernel⟩
theorem za_Client_hasHeader : Cond.instanceMethod ym_Client_hasHeader ∈ zw_WS := zw_mem 298 (by decide +kernel) rfl
theorem zb_Client_hasHeader : Cond.selects ym_Client_hasHeader.cls ym_Client_hasHeader ym_Client_hasHeader ∈ zw_WS := zw_mem 299 (by decide +kernel) rfl
def ym_Bank_ctor : MethodName := ⟨"TwinLedgers$Bank", "<init>", "()V"⟩
abbrev bm_Bank_ctor : ByteArray := prog_2_method_1_code
theorem zk_Bank_ctor : Cond.code ym_Bank_ctor bm_Bank_ctor 2 none ∈ zw_WS ∧ Cond.initialized ym_Bank_ctor.cls ∈ zw_WS ∧ (ym_Bank_ctor.cls ≠ "java/lang/invoke/MethodHandle" ∧ ym_Bank_ctor.cls ≠ "java/lang/invoke/VarHandle" ∧ (parseMethodDescriptor ym_Bank_ctor.desc).map (fun d => d.parameters.length) = some 0) := ⟨zw_mem 86 (by decide +kernel) rfl, zw_mem 31 (by decide +kernel) rfl, by decide +kernel, by decide +kernel, by decide +kernel⟩
theorem za_Bank_ctor : Cond.instanceMethod ym_Bank_ctor ∈ zw_WS := zw_mem 85 (by decide +kernel) rfl
def ym_Bank_isKind : MethodName := ⟨"TwinLedgers$Bank", "isKind", "(I)Z"⟩
abbrev bm_Bank_isKind : ByteArray := prog_2_method_2_code
theorem zk_Bank_isKind : Cond.code ym_Bank_isKind bm_Bank_isKind 2 (some .boolean) ∈ zw_WS ∧ Cond.initialized ym_Bank_isKind.cls ∈ zw_WS ∧ (ym_Bank_isKind.cls ≠ "java/lang/invoke/MethodHandle" ∧ ym_Bank_isKind.cls ≠ "java/lang/invoke/VarHandle" ∧ (parseMethodDescriptor ym_Bank_isKind.desc).map (fun d => d.parameters.length) = some 1) := ⟨zw_mem 336 (by decide +kernel) rfl, zw_mem 31 (by decide +kernel) rfl, by decide +kernel, by decide +kernel, by decide +kernel⟩
theorem za_Bank_isKind : Cond.instanceMethod ym_Bank_isKind ∈ zw_WS := zw_mem 334 (by decide +kernel) rfl
theorem zb_Bank_isKind : Cond.selects ym_Bank_isKind.cls ym_Bank_isKind ym_Bank_isKind ∈ zw_WS := zw_mem 335 (by decide +kernel) rfl
def ym_Bank_backBy : MethodName := ⟨"TwinLedgers$Bank", "backBy", "(II)I"⟩
abbrev bm_Bank_backBy : ByteArray := prog_2_method_3_code
theorem zk_Bank_backBy : Cond.code ym_Bank_backBy bm_Bank_backBy 3 (some .int) ∈ zw_WS ∧ Cond.initialized ym_Bank_backBy.cls ∈ zw_WS ∧ (ym_Bank_backBy.cls ≠ "java/lang/invoke/MethodHandle" ∧ ym_Bank_backBy.cls ≠ "java/lang/invoke/VarHandle" ∧ (parseMethodDescriptor ym_Bank_backBy.desc).map (fun d => d.parameters.length) = some 2) := ⟨zw_mem 344 (by decide +kernel) rfl, zw_mem 31 (by decide +kernel) rfl, by decide +kernel, by decide +kernel, by decide +kernel⟩
theorem za_Bank_backBy : Cond.instanceMethod ym_Bank_backBy ∈ zw_WS := zw_mem 342 (by decide +kernel) rfl
theorem zb_Bank_backBy : Cond.selects ym_Bank_backBy.cls ym_Bank_backBy ym_Bank_backBy ∈ zw_WS := zw_mem 343 (by decide +kernel) rfl
def ym_Bank_charge : MethodName := ⟨"TwinLedgers$Bank", "charge", "(LTwinLedgers$Packet;I)V"⟩
abbrev bm_Bank_charge : ByteArray := prog_2_method_4_code
theorem zk_Bank_charge : Cond.code ym_Bank_charge bm_Bank_charge 3 none ∈ zw_WS ∧ Cond.initialized ym_Bank_charge.cls ∈ zw_WS ∧ (ym_Bank_charge.cls ≠ "java/lang/invoke/MethodHandle" ∧ ym_Bank_charge.cls ≠ "java/lang/invoke/VarHandle" ∧ (parseMethodDescriptor ym_Bank_charge.desc).map (fun d => d.parameters.length) = some 2) := ⟨zw_mem 348 (by decide +kernel) rfl, zw_mem 31 (by decide +kernel) rfl, by decide +kernel, by decide +kernel, by decide +kernel⟩
theorem za_Bank_charge : Cond.instanceMethod ym_Bank_charge ∈ zw_WS := zw_mem 346 (by decide +kernel) rfl
theorem zb_Bank_charge : Cond.selects ym_Bank_charge.cls ym_Bank_charge ym_Bank_charge ∈ zw_WS := zw_mem 347 (by decide +kernel) rfl
def ym_Bank_refund : MethodName := ⟨"TwinLedgers$Bank", "refund", "(LTwinLedgers$Packet;I)V"⟩
abbrev bm_Bank_refund : ByteArray := prog_2_method_5_code
theorem zk_Bank_refund : Cond.code ym_Bank_refund bm_Bank_refund 3 none ∈ zw_WS ∧ Cond.initialized ym_Bank_refund.cls ∈ zw_WS ∧ (ym_Bank_refund.cls ≠ "java/lang/invoke/MethodHandle" ∧ ym_Bank_refund.cls ≠ "java/lang/invoke/VarHandle" ∧ (parseMethodDescriptor ym_Bank_refund.desc).map (fun d => d.parameters.length) = some 2) := ⟨zw_mem 434 (by decide +kernel) rfl, zw_mem 31 (by decide +kernel) rfl, by decide +kernel, by decide +kernel, by decide +kernel⟩
theorem za_Bank_refund : Cond.instanceMethod ym_Bank_refund ∈ zw_WS := zw_mem 432 (by decide +kernel) rfl
theorem zb_Bank_refund : Cond.selects ym_Bank_refund.cls ym_Bank_refund ym_Bank_refund ∈ zw_WS := zw_mem 433 (by decide +kernel) rfl
def ym_Bank_take : MethodName := ⟨"TwinLedgers$Bank", "take", "(LTwinLedgers$Packet;I)Z"⟩
abbrev bm_Bank_take : ByteArray := prog_2_method_6_code
theorem zk_Bank_take : Cond.code ym_Bank_take bm_Bank_take 3 (some .boolean) ∈ zw_WS ∧ Cond.initialized ym_Bank_take.cls ∈ zw_WS ∧ (ym_Bank_take.cls ≠ "java/lang/invoke/MethodHandle" ∧ ym_Bank_take.cls ≠ "java/lang/invoke/VarHandle" ∧ (parseMethodDescriptor ym_Bank_take.desc).map (fun d => d.parameters.length) = some 2) := ⟨zw_mem 395 (by decide +kernel) rfl, zw_mem 31 (by decide +kernel) rfl, by decide +kernel, by decide +kernel, by decide +kernel⟩
theorem za_Bank_take : Cond.instanceMethod ym_Bank_take ∈ zw_WS := zw_mem 393 (by decide +kernel) rfl
theorem zb_Bank_take : Cond.selects ym_Bank_take.cls ym_Bank_take ym_Bank_take ∈ zw_WS := zw_mem 394 (by decide +kernel) rfl
def ym_Bank_takeBack : MethodName := ⟨"TwinLedgers$Bank", "takeBack", "(LTwinLedgers$Packet;I)Z"⟩
abbrev bm_Bank_takeBack : ByteArray := prog_2_method_7_code
theorem zk_Bank_takeBack : Cond.code ym_Bank_takeBack bm_Bank_takeBack 4 (some .boolean) ∈ zw_WS ∧ Cond.initialized ym_Bank_takeBack.cls ∈ zw_WS ∧ (ym_Bank_takeBack.cls ≠ "java/lang/invoke/MethodHandle" ∧ ym_Bank_takeBack.cls ≠ "java/lang/invoke/VarHandle" ∧ (parseMethodDescriptor ym_Bank_takeBack.desc).map (fun d => d.parameters.length) = some 2) := ⟨zw_mem 399 (by decide +kernel) rfl, zw_mem 31 (by decide +kernel) rfl, by decide +kernel, by decide +kernel, by decide +kernel⟩
theorem za_Bank_takeBack : Cond.instanceMethod ym_Bank_takeBack ∈ zw_WS := zw_mem 398 (by decide +kernel) rfl
theorem zb_Bank_takeBack : Cond.selects ym_Bank_takeBack.cls ym_Bank_takeBack ym_Bank_takeBack ∈ zw_WS := zw_mem 7 (by decide +kernel) rfl
def ym_Bank_takeVoucher : MethodName := ⟨"TwinLedgers$Bank", "takeVoucher", "(LTwinLedgers$Packet;I)Z"⟩
abbrev bm_Bank_takeVoucher : ByteArray := prog_2_method_8_code
theorem zk_Bank_takeVoucher : Cond.code ym_Bank_takeVoucher bm_Bank_takeVoucher 4 (some .boolean) ∈ zw_WS ∧ Cond.initialized ym_Bank_takeVoucher.cls ∈ zw_WS ∧ (ym_Bank_takeVoucher.cls ≠ "java/lang/invoke/MethodHandle" ∧ ym_Bank_takeVoucher.cls ≠ "java/lang/invoke/VarHandle" ∧ (parseMethodDescriptor ym_Bank_takeVoucher.desc).map (fun d => d.parameters.length) = some 2) := ⟨zw_mem 403 (by decide +kernel) rfl, zw_mem 31 (by decide +kernel) rfl, by decide +kernel, by decide +kernel, by decide +kernel⟩
theorem za_Bank_takeVoucher : Cond.instanceMethod ym_Bank_takeVoucher ∈ zw_WS := zw_mem 402 (by decide +kernel) rfl
theorem zb_Bank_takeVoucher : Cond.selects ym_Bank_takeVoucher.cls ym_Bank_takeVoucher ym_Bank_takeVoucher ∈ zw_WS := zw_mem 8 (by decide +kernel) rfl
def ym_Bank_findVoucher : MethodName := ⟨"TwinLedgers$Bank", "findVoucher", "(II)I"⟩
abbrev bm_Bank_findVoucher : ByteArray := prog_2_method_9_code
theorem zk_Bank_findVoucher : Cond.code ym_Bank_findVoucher bm_Bank_findVoucher 4 (some .int) ∈ zw_WS ∧ Cond.initialized ym_Bank_findVoucher.cls ∈ zw_WS ∧ (ym_Bank_findVoucher.cls ≠ "java/lang/invoke/MethodHandle" ∧ ym_Bank_findVoucher.cls ≠ "java/lang/invoke/VarHandle" ∧ (parseMethodDescriptor ym_Bank_findVoucher.desc).map (fun d => d.parameters.length) = some 2) := ⟨zw_mem 407 (by decide +kernel) rfl, zw_mem 31 (by decide +kernel) rfl, by decide +kernel, by decide +kernel, by decide +kernel⟩
theorem za_Bank_findVoucher : Cond.instanceMethod ym_Bank_findVoucher ∈ zw_WS := zw_mem 406 (by decide +kernel) rfl
theorem zb_Bank_findVoucher : Cond.selects ym_Bank_findVoucher.cls ym_Bank_findVoucher ym_Bank_findVoucher ∈ zw_WS := zw_mem 9 (by decide +kernel) rfl
def ym_End_ctor : MethodName := ⟨"TwinLedgers$End", "<init>", "()V"⟩
abbrev bm_End_ctor : ByteArray := prog_4_method_1_code
theorem zk_End_ctor : Cond.code ym_End_ctor bm_End_ctor 2 none ∈ zw_WS ∧ Cond.initialized ym_End_ctor.cls ∈ zw_WS ∧ (ym_End_ctor.cls ≠ "java/lang/invoke/MethodHandle" ∧ ym_End_ctor.cls ≠ "java/lang/invoke/VarHandle" ∧ (parseMethodDescriptor ym_End_ctor.desc).map (fun d => d.parameters.length) = some 0) := ⟨zw_mem 116 (by decide +kernel) rfl, zw_mem 32 (by decide +kernel) rfl, by decide +kernel, by decide +kernel, by decide +kernel⟩
theorem za_End_ctor : Cond.instanceMethod ym_End_ctor ∈ zw_WS := zw_mem 115 (by decide +kernel) rfl
def ym_Packet_ctor : MethodName := ⟨"TwinLedgers$Packet", "<init>", "()V"⟩
abbrev bm_Packet_ctor : ByteArray := prog_6_method_1_code
theorem zk_Packet_ctor : Cond.code ym_Packet_ctor bm_Packet_ctor 1 none ∈ zw_WS ∧ Cond.initialized ym_Packet_ctor.cls ∈ zw_WS ∧ (ym_Packet_ctor.cls ≠ "java/lang/invoke/MethodHandle" ∧ ym_Packet_ctor.cls ≠ "java/lang/invoke/VarHandle" ∧ (parseMethodDescriptor ym_Packet_ctor.desc).map (fun d => d.parameters.length) = some 0) := ⟨zw_mem 123 (by decide +kernel) rfl, zw_mem 33 (by decide +kernel) rfl, by decide +kernel, by decide +kernel, by decide +kernel⟩
theorem za_Packet_ctor : Cond.instanceMethod ym_Packet_ctor ∈ zw_WS := zw_mem 122 (by decide +kernel) rfl
def ym_Packet_goesBack : MethodName := ⟨"TwinLedgers$Packet", "goesBack", "()Z"⟩
abbrev bm_Packet_goesBack : ByteArray := prog_6_method_2_code
theorem zk_Packet_goesBack : Cond.code ym_Packet_goesBack bm_Packet_goesBack 1 (some .boolean) ∈ zw_WS ∧ Cond.initialized ym_Packet_goesBack.cls ∈ zw_WS ∧ (ym_Packet_goesBack.cls ≠ "java/lang/invoke/MethodHandle" ∧ ym_Packet_goesBack.cls ≠ "java/lang/invoke/VarHandle" ∧ (parseMethodDescriptor ym_Packet_goesBack.desc).map (fun d => d.parameters.length) = some 0) := ⟨zw_mem 352 (by decide +kernel) rfl, zw_mem 33 (by decide +kernel) rfl, by decide +kernel, by decide +kernel, by decide +kernel⟩
theorem za_Packet_goesBack : Cond.instanceMethod ym_Packet_goesBack ∈ zw_WS := zw_mem 350 (by decide +kernel) rfl
theorem zb_Packet_goesBack : Cond.selects ym_Packet_goesBack.cls ym_Packet_goesBack ym_Packet_goesBack ∈ zw_WS := zw_mem 351 (by decide +kernel) rfl
def ym_Packet_printWith : MethodName := ⟨"TwinLedgers$Packet", "printWith", "(I)I"⟩
abbrev bm_Packet_printWith : ByteArray := prog_6_method_3_code
theorem zk_Packet_printWith : Cond.code ym_Packet_printWith bm_Packet_printWith 3 (some .int) ∈ zw_WS ∧ Cond.initialized ym_Packet_printWith.cls ∈ zw_WS ∧ (ym_Packet_printWith.cls ≠ "java/lang/invoke/MethodHandle" ∧ ym_Packet_printWith.cls ≠ "java/lang/invoke/VarHandle" ∧ (parseMethodDescriptor ym_Packet_printWith.desc).map (fun d => d.parameters.length) = some 1) := ⟨zw_mem 359 (by decide +kernel) rfl, zw_mem 33 (by decide +kernel) rfl, by decide +kernel, by decide +kernel, by decide +kernel⟩
theorem za_Packet_printWith : Cond.instanceMethod ym_Packet_printWith ∈ zw_WS := zw_mem 357 (by decide +kernel) rfl
theorem zb_Packet_printWith : Cond.selects ym_Packet_printWith.cls ym_Packet_printWith ym_Packet_printWith ∈ zw_WS := zw_mem 358 (by decide +kernel) rfl
def ym_Mo_ctor : MethodName := ⟨"TwinLedgersModel", "<init>", "(I)V"⟩
abbrev bm_Mo_ctor : ByteArray := prog_9_method_1_code
theorem zk_Mo_ctor : Cond.code ym_Mo_ctor bm_Mo_ctor 4 none ∈ zw_WS ∧ Cond.initialized ym_Mo_ctor.cls ∈ zw_WS ∧ (ym_Mo_ctor.cls ≠ "java/lang/invoke/MethodHandle" ∧ ym_Mo_ctor.cls ≠ "java/lang/invoke/VarHandle" ∧ (parseMethodDescriptor ym_Mo_ctor.desc).map (fun d => d.parameters.length) = some 1) := ⟨zw_mem 523 (by decide +kernel) rfl, zw_mem 34 (by decide +kernel) rfl, by decide +kernel, by decide +kernel, by decide +kernel⟩
theorem za_Mo_ctor : Cond.instanceMethod ym_Mo_ctor ∈ zw_WS := zw_mem 522 (by decide +kernel) rfl
def ym_Mo_outside : MethodName := ⟨"TwinLedgersModel", "outside", "(III)Z"⟩
abbrev bm_Mo_outside : ByteArray := prog_9_method_2_code
theorem zk_Mo_outside : Cond.code ym_Mo_outside bm_Mo_outside 3 (some .boolean) ∈ zw_WS ∧ Cond.initialized ym_Mo_outside.cls ∈ zw_WS ∧ (ym_Mo_outside.cls ≠ "java/lang/invoke/MethodHandle" ∧ ym_Mo_outside.cls ≠ "java/lang/invoke/VarHandle" ∧ (parseMethodDescriptor ym_Mo_outside.desc).map (fun d => d.parameters.length) = some 3) := ⟨zw_mem 610 (by decide +kernel) rfl, zw_mem 34 (by decide +kernel) rfl, by decide +kernel, by decide +kernel, by decide +kernel⟩
theorem za_Mo_outside : Cond.static ym_Mo_outside ∈ zw_WS := zw_mem 609 (by decide +kernel) rfl
def ym_Mo_mix : MethodName := ⟨"TwinLedgersModel", "mix", "(II)I"⟩
abbrev bm_Mo_mix : ByteArray := prog_9_method_3_code
theorem zk_Mo_mix : Cond.code ym_Mo_mix bm_Mo_mix 3 (some .int) ∈ zw_WS ∧ Cond.initialized ym_Mo_mix.cls ∈ zw_WS ∧ (ym_Mo_mix.cls ≠ "java/lang/invoke/MethodHandle" ∧ ym_Mo_mix.cls ≠ "java/lang/invoke/VarHandle" ∧ (parseMethodDescriptor ym_Mo_mix.desc).map (fun d => d.parameters.length) = some 2) := ⟨zw_mem 625 (by decide +kernel) rfl, zw_mem 34 (by decide +kernel) rfl, by decide +kernel, by decide +kernel, by decide +kernel⟩
theorem za_Mo_mix : Cond.static ym_Mo_mix ∈ zw_WS := zw_mem 624 (by decide +kernel) rfl
def ym_Mo_list : MethodName := ⟨"TwinLedgersModel", "list", "(III)V"⟩
abbrev bm_Mo_list : ByteArray := prog_9_method_4_code
theorem zk_Mo_list : Cond.code ym_Mo_list bm_Mo_list 5 none ∈ zw_WS ∧ Cond.initialized ym_Mo_list.cls ∈ zw_WS ∧ (ym_Mo_list.cls ≠ "java/lang/invoke/MethodHandle" ∧ ym_Mo_list.cls ≠ "java/lang/invoke/VarHandle" ∧ (parseMethodDescriptor ym_Mo_list.desc).map (fun d => d.parameters.length) = some 3) := ⟨zw_mem 614 (by decide +kernel) rfl, zw_mem 34 (by decide +kernel) rfl, by decide +kernel, by decide +kernel, by decide +kernel⟩
theorem za_Mo_list : Cond.instanceMethod ym_Mo_list ∈ zw_WS := zw_mem 613 (by decide +kernel) rfl
theorem zb_Mo_list : Cond.selects ym_Mo_list.cls ym_Mo_list ym_Mo_list ∈ zw_WS := zw_mem 14 (by decide +kernel) rfl
def ym_Mo_tick : MethodName := ⟨"TwinLedgersModel", "tick", "(I)I"⟩
abbrev bm_Mo_tick : ByteArray := prog_9_method_5_code
theorem zk_Mo_tick : Cond.code ym_Mo_tick bm_Mo_tick 5 (some .int) ∈ zw_WS ∧ Cond.initialized ym_Mo_tick.cls ∈ zw_WS ∧ (ym_Mo_tick.cls ≠ "java/lang/invoke/MethodHandle" ∧ ym_Mo_tick.cls ≠ "java/lang/invoke/VarHandle" ∧ (parseMethodDescriptor ym_Mo_tick.desc).map (fun d => d.parameters.length) = some 1) := ⟨zw_mem 607 (by decide +kernel) rfl, zw_mem 34 (by decide +kernel) rfl, by decide +kernel, by decide +kernel, by decide +kernel⟩
theorem za_Mo_tick : Cond.instanceMethod ym_Mo_tick ∈ zw_WS := zw_mem 605 (by decide +kernel) rfl
theorem zb_Mo_tick : Cond.selects ym_Mo_tick.cls ym_Mo_tick ym_Mo_tick ∈ zw_WS := zw_mem 606 (by decide +kernel) rfl
def ym_Mo_listPacket : MethodName := ⟨"TwinLedgersModel", "listPacket", "(IIII)V"⟩
abbrev bm_Mo_listPacket : ByteArray := prog_9_method_6_code
theorem zk_Mo_listPacket : Cond.code ym_Mo_listPacket bm_Mo_listPacket 7 none ∈ zw_WS ∧ Cond.initialized ym_Mo_listPacket.cls ∈ zw_WS ∧ (ym_Mo_listPacket.cls ≠ "java/lang/invoke/MethodHandle" ∧ ym_Mo_listPacket.cls ≠ "java/lang/invoke/VarHandle" ∧ (parseMethodDescriptor ym_Mo_listPacket.desc).map (fun d => d.parameters.length) = some 4) := ⟨zw_mem 618 (by decide +kernel) rfl, zw_mem 34 (by decide +kernel) rfl, by decide +kernel, by decide +kernel, by decide +kernel⟩
theorem za_Mo_listPacket : Cond.instanceMethod ym_Mo_listPacket ∈ zw_WS := zw_mem 617 (by decide +kernel) rfl
theorem zb_Mo_listPacket : Cond.selects ym_Mo_listPacket.cls ym_Mo_listPacket ym_Mo_listPacket ∈ zw_WS := zw_mem 15 (by decide +kernel) rfl
def ym_Mo_print : MethodName := ⟨"TwinLedgersModel", "print", "(II)I"⟩
abbrev bm_Mo_print : ByteArray := prog_9_method_7_code
theorem zk_Mo_print : Cond.code ym_Mo_print bm_Mo_print 3 (some .int) ∈ zw_WS ∧ Cond.initialized ym_Mo_print.cls ∈ zw_WS ∧ (ym_Mo_print.cls ≠ "java/lang/invoke/MethodHandle" ∧ ym_Mo_print.cls ≠ "java/lang/invoke/VarHandle" ∧ (parseMethodDescriptor ym_Mo_print.desc).map (fun d => d.parameters.length) = some 2) := ⟨zw_mem 622 (by decide +kernel) rfl, zw_mem 34 (by decide +kernel) rfl, by decide +kernel, by decide +kernel, by decide +kernel⟩
theorem za_Mo_print : Cond.instanceMethod ym_Mo_print ∈ zw_WS := zw_mem 621 (by decide +kernel) rfl
theorem zb_Mo_print : Cond.selects ym_Mo_print.cls ym_Mo_print ym_Mo_print ∈ zw_WS := zw_mem 16 (by decide +kernel) rfl
def ym_Mo_keeps : MethodName := ⟨"TwinLedgersModel", "keeps", "(II)Z"⟩
abbrev bm_Mo_keeps : ByteArray := prog_9_method_8_code
theorem zk_Mo_keeps : Cond.code ym_Mo_keeps bm_Mo_keeps 3 (some .boolean) ∈ zw_WS ∧ Cond.initialized ym_Mo_keeps.cls ∈ zw_WS ∧ (ym_Mo_keeps.cls ≠ "java/lang/invoke/MethodHandle" ∧ ym_Mo_keeps.cls ≠ "java/lang/invoke/VarHandle" ∧ (parseMethodDescriptor ym_Mo_keeps.desc).map (fun d => d.parameters.length) = some 2) := ⟨zw_mem 642 (by decide +kernel) rfl, zw_mem 34 (by decide +kernel) rfl, by decide +kernel, by decide +kernel, by decide +kernel⟩
theorem za_Mo_keeps : Cond.instanceMethod ym_Mo_keeps ∈ zw_WS := zw_mem 641 (by decide +kernel) rfl
theorem zb_Mo_keeps : Cond.selects ym_Mo_keeps.cls ym_Mo_keeps ym_Mo_keeps ∈ zw_WS := zw_mem 17 (by decide +kernel) rfl
def ym_Mo_update : MethodName := ⟨"TwinLedgersModel", "update", "(IIIZ)I"⟩
abbrev bm_Mo_update : ByteArray := prog_9_method_9_code
theorem zk_Mo_update : Cond.code ym_Mo_update bm_Mo_update 6 (some .int) ∈ zw_WS ∧ Cond.initialized ym_Mo_update.cls ∈ zw_WS ∧ (ym_Mo_update.cls ≠ "java/lang/invoke/MethodHandle" ∧ ym_Mo_update.cls ≠ "java/lang/invoke/VarHandle" ∧ (parseMethodDescriptor ym_Mo_update.desc).map (fun d => d.parameters.length) = some 4) := ⟨zw_mem 630 (by decide +kernel) rfl, zw_mem 34 (by decide +kernel) rfl, by decide +kernel, by decide +kernel, by decide +kernel⟩
theorem za_Mo_update : Cond.instanceMethod ym_Mo_update ∈ zw_WS := zw_mem 628 (by decide +kernel) rfl
theorem zb_Mo_update : Cond.selects ym_Mo_update.cls ym_Mo_update ym_Mo_update ∈ zw_WS := zw_mem 629 (by decide +kernel) rfl
def ym_Mo_knows : MethodName := ⟨"TwinLedgersModel", "knows", "(II)Z"⟩
abbrev bm_Mo_knows : ByteArray := prog_9_method_10_code
theorem zk_Mo_knows : Cond.code ym_Mo_knows bm_Mo_knows 3 (some .boolean) ∈ zw_WS ∧ Cond.initialized ym_Mo_knows.cls ∈ zw_WS ∧ (ym_Mo_knows.cls ≠ "java/lang/invoke/MethodHandle" ∧ ym_Mo_knows.cls ≠ "java/lang/invoke/VarHandle" ∧ (parseMethodDescriptor ym_Mo_knows.desc).map (fun d => d.parameters.length) = some 2) := ⟨zw_mem 634 (by decide +kernel) rfl, zw_mem 34 (by decide +kernel) rfl, by decide +kernel, by decide +kernel, by decide +kernel⟩
theorem za_Mo_knows : Cond.instanceMethod ym_Mo_knows ∈ zw_WS := zw_mem 632 (by decide +kernel) rfl
theorem zb_Mo_knows : Cond.selects ym_Mo_knows.cls ym_Mo_knows ym_Mo_knows ∈ zw_WS := zw_mem 633 (by decide +kernel) rfl
def ym_Mo_proof : MethodName := ⟨"TwinLedgersModel", "proof", "(IIIZI)I"⟩
abbrev bm_Mo_proof : ByteArray := prog_9_method_11_code
theorem zk_Mo_proof : Cond.code ym_Mo_proof bm_Mo_proof 9 (some .int) ∈ zw_WS ∧ Cond.initialized ym_Mo_proof.cls ∈ zw_WS ∧ (ym_Mo_proof.cls ≠ "java/lang/invoke/MethodHandle" ∧ ym_Mo_proof.cls ≠ "java/lang/invoke/VarHandle" ∧ (parseMethodDescriptor ym_Mo_proof.desc).map (fun d => d.parameters.length) = some 5) := ⟨zw_mem 664 (by decide +kernel) rfl, zw_mem 34 (by decide +kernel) rfl, by decide +kernel, by decide +kernel, by decide +kernel⟩
theorem za_Mo_proof : Cond.instanceMethod ym_Mo_proof ∈ zw_WS := zw_mem 663 (by decide +kernel) rfl
theorem zb_Mo_proof : Cond.selects ym_Mo_proof.cls ym_Mo_proof ym_Mo_proof ∈ zw_WS := zw_mem 19 (by decide +kernel) rfl
def ym_Mo_root : MethodName := ⟨"TwinLedgersModel", "root", "(II)I"⟩
abbrev bm_Mo_root : ByteArray := prog_9_method_12_code
theorem zk_Mo_root : Cond.code ym_Mo_root bm_Mo_root 6 (some .int) ∈ zw_WS ∧ Cond.initialized ym_Mo_root.cls ∈ zw_WS ∧ (ym_Mo_root.cls ≠ "java/lang/invoke/MethodHandle" ∧ ym_Mo_root.cls ≠ "java/lang/invoke/VarHandle" ∧ (parseMethodDescriptor ym_Mo_root.desc).map (fun d => d.parameters.length) = some 2) := ⟨zw_mem 638 (by decide +kernel) rfl, zw_mem 34 (by decide +kernel) rfl, by decide +kernel, by decide +kernel, by decide +kernel⟩
theorem za_Mo_root : Cond.instanceMethod ym_Mo_root ∈ zw_WS := zw_mem 636 (by decide +kernel) rfl
theorem zb_Mo_root : Cond.selects ym_Mo_root.cls ym_Mo_root ym_Mo_root ∈ zw_WS := zw_mem 637 (by decide +kernel) rfl
def ym_Mo_join : MethodName := ⟨"TwinLedgersModel", "join", "(I)I"⟩
abbrev bm_Mo_join : ByteArray := prog_9_method_13_code
theorem zk_Mo_join : Cond.code ym_Mo_join bm_Mo_join 2 (some .int) ∈ zw_WS ∧ Cond.initialized ym_Mo_join.cls ∈ zw_WS ∧ (ym_Mo_join.cls ≠ "java/lang/invoke/MethodHandle" ∧ ym_Mo_join.cls ≠ "java/lang/invoke/VarHandle" ∧ (parseMethodDescriptor ym_Mo_join.desc).map (fun d => d.parameters.length) = some 1) := ⟨zw_mem 646 (by decide +kernel) rfl, zw_mem 34 (by decide +kernel) rfl, by decide +kernel, by decide +kernel, by decide +kernel⟩
theorem za_Mo_join : Cond.instanceMethod ym_Mo_join ∈ zw_WS := zw_mem 645 (by decide +kernel) rfl
theorem zb_Mo_join : Cond.selects ym_Mo_join.cls ym_Mo_join ym_Mo_join ∈ zw_WS := zw_mem 18 (by decide +kernel) rfl
def ym_Mo_isEnd : MethodName := ⟨"TwinLedgersModel", "isEnd", "(II)Z"⟩
abbrev bm_Mo_isEnd : ByteArray := prog_9_method_14_code
theorem zk_Mo_isEnd : Cond.code ym_Mo_isEnd bm_Mo_isEnd 2 (some .boolean) ∈ zw_WS ∧ Cond.initialized ym_Mo_isEnd.cls ∈ zw_WS ∧ (ym_Mo_isEnd.cls ≠ "java/lang/invoke/MethodHandle" ∧ ym_Mo_isEnd.cls ≠ "java/lang/invoke/VarHandle" ∧ (parseMethodDescriptor ym_Mo_isEnd.desc).map (fun d => d.parameters.length) = some 2) := ⟨zw_mem 653 (by decide +kernel) rfl, zw_mem 34 (by decide +kernel) rfl, by decide +kernel, by decide +kernel, by decide +kernel⟩
theorem za_Mo_isEnd : Cond.static ym_Mo_isEnd ∈ zw_WS := zw_mem 652 (by decide +kernel) rfl
def ym_Mo_flag : MethodName := ⟨"TwinLedgersModel", "flag", "(Z)I"⟩
abbrev bm_Mo_flag : ByteArray := prog_9_method_15_code
theorem zk_Mo_flag : Cond.code ym_Mo_flag bm_Mo_flag 1 (some .int) ∈ zw_WS ∧ Cond.initialized ym_Mo_flag.cls ∈ zw_WS ∧ (ym_Mo_flag.cls ≠ "java/lang/invoke/MethodHandle" ∧ ym_Mo_flag.cls ≠ "java/lang/invoke/VarHandle" ∧ (parseMethodDescriptor ym_Mo_flag.desc).map (fun d => d.parameters.length) = some 1) := ⟨zw_mem 660 (by decide +kernel) rfl, zw_mem 34 (by decide +kernel) rfl, by decide +kernel, by decide +kernel, by decide +kernel⟩
theorem za_Mo_flag : Cond.static ym_Mo_flag ∈ zw_WS := zw_mem 659 (by decide +kernel) rfl
def ym_Mo_init : MethodName := ⟨"TwinLedgersModel", "init", "(IIZ)I"⟩
abbrev bm_Mo_init : ByteArray := prog_9_method_16_code
theorem zk_Mo_init : Cond.code ym_Mo_init bm_Mo_init 5 (some .int) ∈ zw_WS ∧ Cond.initialized ym_Mo_init.cls ∈ zw_WS ∧ (ym_Mo_init.cls ≠ "java/lang/invoke/MethodHandle" ∧ ym_Mo_init.cls ≠ "java/lang/invoke/VarHandle" ∧ (parseMethodDescriptor ym_Mo_init.desc).map (fun d => d.parameters.length) = some 3) := ⟨zw_mem 650 (by decide +kernel) rfl, zw_mem 34 (by decide +kernel) rfl, by decide +kernel, by decide +kernel, by decide +kernel⟩
theorem za_Mo_init : Cond.instanceMethod ym_Mo_init ∈ zw_WS := zw_mem 648 (by decide +kernel) rfl
theorem zb_Mo_init : Cond.selects ym_Mo_init.cls ym_Mo_init ym_Mo_init ∈ zw_WS := zw_mem 649 (by decide +kernel) rfl
def ym_Mo_attempt : MethodName := ⟨"TwinLedgersModel", "attempt", "(IIZI)I"⟩
abbrev bm_Mo_attempt : ByteArray := prog_9_method_17_code
theorem zk_Mo_attempt : Cond.code ym_Mo_attempt bm_Mo_attempt 7 (some .int) ∈ zw_WS ∧ Cond.initialized ym_Mo_attempt.cls ∈ zw_WS ∧ (ym_Mo_attempt.cls ≠ "java/lang/invoke/MethodHandle" ∧ ym_Mo_attempt.cls ≠ "java/lang/invoke/VarHandle" ∧ (parseMethodDescriptor ym_Mo_attempt.desc).map (fun d => d.parameters.length) = some 4) := ⟨zw_mem 657 (by decide +kernel) rfl, zw_mem 34 (by decide +kernel) rfl, by decide +kernel, by decide +kernel, by decide +kernel⟩
theorem za_Mo_attempt : Cond.instanceMethod ym_Mo_attempt ∈ zw_WS := zw_mem 655 (by decide +kernel) rfl
theorem zb_Mo_attempt : Cond.selects ym_Mo_attempt.cls ym_Mo_attempt ym_Mo_attempt ∈ zw_WS := zw_mem 656 (by decide +kernel) rfl
def ym_Mo_open : MethodName := ⟨"TwinLedgersModel", "open", "(IIII)I"⟩
abbrev bm_Mo_open : ByteArray := prog_9_method_18_code
theorem zk_Mo_open : Cond.code ym_Mo_open bm_Mo_open 7 (some .int) ∈ zw_WS ∧ Cond.initialized ym_Mo_open.cls ∈ zw_WS ∧ (ym_Mo_open.cls ≠ "java/lang/invoke/MethodHandle" ∧ ym_Mo_open.cls ≠ "java/lang/invoke/VarHandle" ∧ (parseMethodDescriptor ym_Mo_open.desc).map (fun d => d.parameters.length) = some 4) := ⟨zw_mem 669 (by decide +kernel) rfl, zw_mem 34 (by decide +kernel) rfl, by decide +kernel, by decide +kernel, by decide +kernel⟩
theorem za_Mo_open : Cond.instanceMethod ym_Mo_open ∈ zw_WS := zw_mem 667 (by decide +kernel) rfl
theorem zb_Mo_open : Cond.selects ym_Mo_open.cls ym_Mo_open ym_Mo_open ∈ zw_WS := zw_mem 668 (by decide +kernel) rfl
def ym_Mo_close : MethodName := ⟨"TwinLedgersModel", "close", "(II)I"⟩
abbrev bm_Mo_close : ByteArray := prog_9_method_19_code
theorem zk_Mo_close : Cond.code ym_Mo_close bm_Mo_close 3 (some .int) ∈ zw_WS ∧ Cond.initialized ym_Mo_close.cls ∈ zw_WS ∧ (ym_Mo_close.cls ≠ "java/lang/invoke/MethodHandle" ∧ ym_Mo_close.cls ≠ "java/lang/invoke/VarHandle" ∧ (parseMethodDescriptor ym_Mo_close.desc).map (fun d => d.parameters.length) = some 2) := ⟨zw_mem 673 (by decide +kernel) rfl, zw_mem 34 (by decide +kernel) rfl, by decide +kernel, by decide +kernel, by decide +kernel⟩
theorem za_Mo_close : Cond.instanceMethod ym_Mo_close ∈ zw_WS := zw_mem 671 (by decide +kernel) rfl
theorem zb_Mo_close : Cond.selects ym_Mo_close.cls ym_Mo_close ym_Mo_close ∈ zw_WS := zw_mem 672 (by decide +kernel) rfl
def ym_Mo_send : MethodName := ⟨"TwinLedgersModel", "send", "(IIIII)I"⟩
abbrev bm_Mo_send : ByteArray := prog_9_method_20_code
theorem zk_Mo_send : Cond.code ym_Mo_send bm_Mo_send 10 (some .int) ∈ zw_WS ∧ Cond.initialized ym_Mo_send.cls ∈ zw_WS ∧ (ym_Mo_send.cls ≠ "java/lang/invoke/MethodHandle" ∧ ym_Mo_send.cls ≠ "java/lang/invoke/VarHandle" ∧ (parseMethodDescriptor ym_Mo_send.desc).map (fun d => d.parameters.length) = some 5) := ⟨zw_mem 677 (by decide +kernel) rfl, zw_mem 34 (by decide +kernel) rfl, by decide +kernel, by decide +kernel, by decide +kernel⟩
theorem za_Mo_send : Cond.instanceMethod ym_Mo_send ∈ zw_WS := zw_mem 675 (by decide +kernel) rfl
theorem zb_Mo_send : Cond.selects ym_Mo_send.cls ym_Mo_send ym_Mo_send ∈ zw_WS := zw_mem 676 (by decide +kernel) rfl
def ym_Mo_voucherFor : MethodName := ⟨"TwinLedgersModel", "voucherFor", "(III)I"⟩
abbrev bm_Mo_voucherFor : ByteArray := prog_9_method_21_code
theorem zk_Mo_voucherFor : Cond.code ym_Mo_voucherFor bm_Mo_voucherFor 5 (some .int) ∈ zw_WS ∧ Cond.initialized ym_Mo_voucherFor.cls ∈ zw_WS ∧ (ym_Mo_voucherFor.cls ≠ "java/lang/invoke/MethodHandle" ∧ ym_Mo_voucherFor.cls ≠ "java/lang/invoke/VarHandle" ∧ (parseMethodDescriptor ym_Mo_voucherFor.desc).map (fun d => d.parameters.length) = some 3) := ⟨zw_mem 689 (by decide +kernel) rfl, zw_mem 34 (by decide +kernel) rfl, by decide +kernel, by decide +kernel, by decide +kernel⟩
theorem za_Mo_voucherFor : Cond.instanceMethod ym_Mo_voucherFor ∈ zw_WS := zw_mem 688 (by decide +kernel) rfl
theorem zb_Mo_voucherFor : Cond.selects ym_Mo_voucherFor.cls ym_Mo_voucherFor ym_Mo_voucherFor ∈ zw_WS := zw_mem 21 (by decide +kernel) rfl
def ym_Mo_takes : MethodName := ⟨"TwinLedgersModel", "takes", "(IIII)Z"⟩
abbrev bm_Mo_takes : ByteArray := prog_9_method_22_code
theorem zk_Mo_takes : Cond.code ym_Mo_takes bm_Mo_takes 8 (some .boolean) ∈ zw_WS ∧ Cond.initialized ym_Mo_takes.cls ∈ zw_WS ∧ (ym_Mo_takes.cls ≠ "java/lang/invoke/MethodHandle" ∧ ym_Mo_takes.cls ≠ "java/lang/invoke/VarHandle" ∧ (parseMethodDescriptor ym_Mo_takes.desc).map (fun d => d.parameters.length) = some 4) := ⟨zw_mem 685 (by decide +kernel) rfl, zw_mem 34 (by decide +kernel) rfl, by decide +kernel, by decide +kernel, by decide +kernel⟩
theorem za_Mo_takes : Cond.instanceMethod ym_Mo_takes ∈ zw_WS := zw_mem 684 (by decide +kernel) rfl
theorem zb_Mo_takes : Cond.selects ym_Mo_takes.cls ym_Mo_takes ym_Mo_takes ∈ zw_WS := zw_mem 20 (by decide +kernel) rfl
def ym_Mo_receive : MethodName := ⟨"TwinLedgersModel", "receive", "(IIIIZ)I"⟩
abbrev bm_Mo_receive : ByteArray := prog_9_method_23_code
theorem zk_Mo_receive : Cond.code ym_Mo_receive bm_Mo_receive 10 (some .int) ∈ zw_WS ∧ Cond.initialized ym_Mo_receive.cls ∈ zw_WS ∧ (ym_Mo_receive.cls ≠ "java/lang/invoke/MethodHandle" ∧ ym_Mo_receive.cls ≠ "java/lang/invoke/VarHandle" ∧ (parseMethodDescriptor ym_Mo_receive.desc).map (fun d => d.parameters.length) = some 5) := ⟨zw_mem 681 (by decide +kernel) rfl, zw_mem 34 (by decide +kernel) rfl, by decide +kernel, by decide +kernel, by decide +kernel⟩
theorem za_Mo_receive : Cond.instanceMethod ym_Mo_receive ∈ zw_WS := zw_mem 679 (by decide +kernel) rfl
theorem zb_Mo_receive : Cond.selects ym_Mo_receive.cls ym_Mo_receive ym_Mo_receive ∈ zw_WS := zw_mem 680 (by decide +kernel) rfl
def ym_Mo_refund : MethodName := ⟨"TwinLedgersModel", "refund", "(III)V"⟩
abbrev bm_Mo_refund : ByteArray := prog_9_method_24_code
theorem zk_Mo_refund : Cond.code ym_Mo_refund bm_Mo_refund 4 none ∈ zw_WS ∧ Cond.initialized ym_Mo_refund.cls ∈ zw_WS ∧ (ym_Mo_refund.cls ≠ "java/lang/invoke/MethodHandle" ∧ ym_Mo_refund.cls ≠ "java/lang/invoke/VarHandle" ∧ (parseMethodDescriptor ym_Mo_refund.desc).map (fun d => d.parameters.length) = some 3) := ⟨zw_mem 697 (by decide +kernel) rfl, zw_mem 34 (by decide +kernel) rfl, by decide +kernel, by decide +kernel, by decide +kernel⟩
theorem za_Mo_refund : Cond.instanceMethod ym_Mo_refund ∈ zw_WS := zw_mem 696 (by decide +kernel) rfl
theorem zb_Mo_refund : Cond.selects ym_Mo_refund.cls ym_Mo_refund ym_Mo_refund ∈ zw_WS := zw_mem 22 (by decide +kernel) rfl
def ym_Mo_acknowledge : MethodName := ⟨"TwinLedgersModel", "acknowledge", "(IIII)I"⟩
abbrev bm_Mo_acknowledge : ByteArray := prog_9_method_25_code
theorem zk_Mo_acknowledge : Cond.code ym_Mo_acknowledge bm_Mo_acknowledge 8 (some .int) ∈ zw_WS ∧ Cond.initialized ym_Mo_acknowledge.cls ∈ zw_WS ∧ (ym_Mo_acknowledge.cls ≠ "java/lang/invoke/MethodHandle" ∧ ym_Mo_acknowledge.cls ≠ "java/lang/invoke/VarHandle" ∧ (parseMethodDescriptor ym_Mo_acknowledge.desc).map (fun d => d.parameters.length) = some 4) := ⟨zw_mem 693 (by decide +kernel) rfl, zw_mem 34 (by decide +kernel) rfl, by decide +kernel, by decide +kernel, by decide +kernel⟩
theorem za_Mo_acknowledge : Cond.instanceMethod ym_Mo_acknowledge ∈ zw_WS := zw_mem 691 (by decide +kernel) rfl
theorem zb_Mo_acknowledge : Cond.selects ym_Mo_acknowledge.cls ym_Mo_acknowledge ym_Mo_acknowledge ∈ zw_WS := zw_mem 692 (by decide +kernel) rfl
def ym_Mo_notReceived : MethodName := ⟨"TwinLedgersModel", "notReceived", "(IIII)I"⟩
abbrev bm_Mo_notReceived : ByteArray := prog_9_method_26_code
theorem zk_Mo_notReceived : Cond.code ym_Mo_notReceived bm_Mo_notReceived 6 (some .int) ∈ zw_WS ∧ Cond.initialized ym_Mo_notReceived.cls ∈ zw_WS ∧ (ym_Mo_notReceived.cls ≠ "java/lang/invoke/MethodHandle" ∧ ym_Mo_notReceived.cls ≠ "java/lang/invoke/VarHandle" ∧ (parseMethodDescriptor ym_Mo_notReceived.desc).map (fun d => d.parameters.length) = some 4) := ⟨zw_mem 705 (by decide +kernel) rfl, zw_mem 34 (by decide +kernel) rfl, by decide +kernel, by decide +kernel, by decide +kernel⟩
theorem za_Mo_notReceived : Cond.instanceMethod ym_Mo_notReceived ∈ zw_WS := zw_mem 704 (by decide +kernel) rfl
theorem zb_Mo_notReceived : Cond.selects ym_Mo_notReceived.cls ym_Mo_notReceived ym_Mo_notReceived ∈ zw_WS := zw_mem 23 (by decide +kernel) rfl
def ym_Mo_timeout : MethodName := ⟨"TwinLedgersModel", "timeout", "(IIIIZ)I"⟩
abbrev bm_Mo_timeout : ByteArray := prog_9_method_27_code
theorem zk_Mo_timeout : Cond.code ym_Mo_timeout bm_Mo_timeout 9 (some .int) ∈ zw_WS ∧ Cond.initialized ym_Mo_timeout.cls ∈ zw_WS ∧ (ym_Mo_timeout.cls ≠ "java/lang/invoke/MethodHandle" ∧ ym_Mo_timeout.cls ≠ "java/lang/invoke/VarHandle" ∧ (parseMethodDescriptor ym_Mo_timeout.desc).map (fun d => d.parameters.length) = some 5) := ⟨zw_mem 701 (by decide +kernel) rfl, zw_mem 34 (by decide +kernel) rfl, by decide +kernel, by decide +kernel, by decide +kernel⟩
theorem za_Mo_timeout : Cond.instanceMethod ym_Mo_timeout ∈ zw_WS := zw_mem 699 (by decide +kernel) rfl
theorem zb_Mo_timeout : Cond.selects ym_Mo_timeout.cls ym_Mo_timeout ym_Mo_timeout ∈ zw_WS := zw_mem 700 (by decide +kernel) rfl
def ym_Mo_relay : MethodName := ⟨"TwinLedgersModel", "relay", "(III)I"⟩
abbrev bm_Mo_relay : ByteArray := prog_9_method_28_code
theorem zk_Mo_relay : Cond.code ym_Mo_relay bm_Mo_relay 9 (some .int) ∈ zw_WS ∧ Cond.initialized ym_Mo_relay.cls ∈ zw_WS ∧ (ym_Mo_relay.cls ≠ "java/lang/invoke/MethodHandle" ∧ ym_Mo_relay.cls ≠ "java/lang/invoke/VarHandle" ∧ (parseMethodDescriptor ym_Mo_relay.desc).map (fun d => d.parameters.length) = some 3) := ⟨zw_mem 715 (by decide +kernel) rfl, zw_mem 34 (by decide +kernel) rfl, by decide +kernel, by decide +kernel, by decide +kernel⟩
theorem za_Mo_relay : Cond.instanceMethod ym_Mo_relay ∈ zw_WS := zw_mem 714 (by decide +kernel) rfl
theorem zb_Mo_relay : Cond.selects ym_Mo_relay.cls ym_Mo_relay ym_Mo_relay ∈ zw_WS := zw_mem 24 (by decide +kernel) rfl
def ym_Mo_round : MethodName := ⟨"TwinLedgersModel", "round", "()I"⟩
abbrev bm_Mo_round : ByteArray := prog_9_method_29_code
theorem zk_Mo_round : Cond.code ym_Mo_round bm_Mo_round 7 (some .int) ∈ zw_WS ∧ Cond.initialized ym_Mo_round.cls ∈ zw_WS ∧ (ym_Mo_round.cls ≠ "java/lang/invoke/MethodHandle" ∧ ym_Mo_round.cls ≠ "java/lang/invoke/VarHandle" ∧ (parseMethodDescriptor ym_Mo_round.desc).map (fun d => d.parameters.length) = some 0) := ⟨zw_mem 709 (by decide +kernel) rfl, zw_mem 34 (by decide +kernel) rfl, by decide +kernel, by decide +kernel, by decide +kernel⟩
theorem za_Mo_round : Cond.instanceMethod ym_Mo_round ∈ zw_WS := zw_mem 707 (by decide +kernel) rfl
theorem zb_Mo_round : Cond.selects ym_Mo_round.cls ym_Mo_round ym_Mo_round ∈ zw_WS := zw_mem 708 (by decide +kernel) rfl
def ym_Mo_height : MethodName := ⟨"TwinLedgersModel", "height", "(I)I"⟩
abbrev bm_Mo_height : ByteArray := prog_9_method_30_code
theorem zk_Mo_height : Cond.code ym_Mo_height bm_Mo_height 2 (some .int) ∈ zw_WS ∧ Cond.initialized ym_Mo_height.cls ∈ zw_WS ∧ (ym_Mo_height.cls ≠ "java/lang/invoke/MethodHandle" ∧ ym_Mo_height.cls ≠ "java/lang/invoke/VarHandle" ∧ (parseMethodDescriptor ym_Mo_height.desc).map (fun d => d.parameters.length) = some 1) := ⟨zw_mem 722 (by decide +kernel) rfl, zw_mem 34 (by decide +kernel) rfl, by decide +kernel, by decide +kernel, by decide +kernel⟩
theorem za_Mo_height : Cond.instanceMethod ym_Mo_height ∈ zw_WS := zw_mem 720 (by decide +kernel) rfl
theorem zb_Mo_height : Cond.selects ym_Mo_height.cls ym_Mo_height ym_Mo_height ∈ zw_WS := zw_mem 721 (by decide +kernel) rfl
def ym_Mo_end : MethodName := ⟨"TwinLedgersModel", "end", "(III)I"⟩
abbrev bm_Mo_end : ByteArray := prog_9_method_31_code
theorem zk_Mo_end : Cond.code ym_Mo_end bm_Mo_end 5 (some .int) ∈ zw_WS ∧ Cond.initialized ym_Mo_end.cls ∈ zw_WS ∧ (ym_Mo_end.cls ≠ "java/lang/invoke/MethodHandle" ∧ ym_Mo_end.cls ≠ "java/lang/invoke/VarHandle" ∧ (parseMethodDescriptor ym_Mo_end.desc).map (fun d => d.parameters.length) = some 3) := ⟨zw_mem 726 (by decide +kernel) rfl, zw_mem 34 (by decide +kernel) rfl, by decide +kernel, by decide +kernel, by decide +kernel⟩
theorem za_Mo_end : Cond.instanceMethod ym_Mo_end ∈ zw_WS := zw_mem 724 (by decide +kernel) rfl
theorem zb_Mo_end : Cond.selects ym_Mo_end.cls ym_Mo_end ym_Mo_end ∈ zw_WS := zw_mem 725 (by decide +kernel) rfl
def ym_Mo_isPacket : MethodName := ⟨"TwinLedgersModel", "isPacket", "(III)Z"⟩
abbrev bm_Mo_isPacket : ByteArray := prog_9_method_32_code
theorem zk_Mo_isPacket : Cond.code ym_Mo_isPacket bm_Mo_isPacket 4 (some .boolean) ∈ zw_WS ∧ Cond.initialized ym_Mo_isPacket.cls ∈ zw_WS ∧ (ym_Mo_isPacket.cls ≠ "java/lang/invoke/MethodHandle" ∧ ym_Mo_isPacket.cls ≠ "java/lang/invoke/VarHandle" ∧ (parseMethodDescriptor ym_Mo_isPacket.desc).map (fun d => d.parameters.length) = some 3) := ⟨zw_mem 734 (by decide +kernel) rfl, zw_mem 34 (by decide +kernel) rfl, by decide +kernel, by decide +kernel, by decide +kernel⟩
theorem za_Mo_isPacket : Cond.instanceMethod ym_Mo_isPacket ∈ zw_WS := zw_mem 733 (by decide +kernel) rfl
theorem zb_Mo_isPacket : Cond.selects ym_Mo_isPacket.cls ym_Mo_isPacket ym_Mo_isPacket ∈ zw_WS := zw_mem 25 (by decide +kernel) rfl
def ym_Mo_packet : MethodName := ⟨"TwinLedgersModel", "packet", "(III)I"⟩
abbrev bm_Mo_packet : ByteArray := prog_9_method_33_code
theorem zk_Mo_packet : Cond.code ym_Mo_packet bm_Mo_packet 4 (some .int) ∈ zw_WS ∧ Cond.initialized ym_Mo_packet.cls ∈ zw_WS ∧ (ym_Mo_packet.cls ≠ "java/lang/invoke/MethodHandle" ∧ ym_Mo_packet.cls ≠ "java/lang/invoke/VarHandle" ∧ (parseMethodDescriptor ym_Mo_packet.desc).map (fun d => d.parameters.length) = some 3) := ⟨zw_mem 730 (by decide +kernel) rfl, zw_mem 34 (by decide +kernel) rfl, by decide +kernel, by decide +kernel, by decide +kernel⟩
theorem za_Mo_packet : Cond.instanceMethod ym_Mo_packet ∈ zw_WS := zw_mem 728 (by decide +kernel) rfl
theorem zb_Mo_packet : Cond.selects ym_Mo_packet.cls ym_Mo_packet ym_Mo_packet ∈ zw_WS := zw_mem 729 (by decide +kernel) rfl
def ym_Mo_limit : MethodName := ⟨"TwinLedgersModel", "limit", "(III)I"⟩
abbrev bm_Mo_limit : ByteArray := prog_9_method_34_code
theorem zk_Mo_limit : Cond.code ym_Mo_limit bm_Mo_limit 4 (some .int) ∈ zw_WS ∧ Cond.initialized ym_Mo_limit.cls ∈ zw_WS ∧ (ym_Mo_limit.cls ≠ "java/lang/invoke/MethodHandle" ∧ ym_Mo_limit.cls ≠ "java/lang/invoke/VarHandle" ∧ (parseMethodDescriptor ym_Mo_limit.desc).map (fun d => d.parameters.length) = some 3) := ⟨zw_mem 738 (by decide +kernel) rfl, zw_mem 34 (by decide +kernel) rfl, by decide +kernel, by decide +kernel, by decide +kernel⟩
theorem za_Mo_limit : Cond.instanceMethod ym_Mo_limit ∈ zw_WS := zw_mem 736 (by decide +kernel) rfl
theorem zb_Mo_limit : Cond.selects ym_Mo_limit.cls ym_Mo_limit ym_Mo_limit ∈ zw_WS := zw_mem 737 (by decide +kernel) rfl
def ym_Mo_balance : MethodName := ⟨"TwinLedgersModel", "balance", "(III)I"⟩
abbrev bm_Mo_balance : ByteArray := prog_9_method_35_code
theorem zk_Mo_balance : Cond.code ym_Mo_balance bm_Mo_balance 4 (some .int) ∈ zw_WS ∧ Cond.initialized ym_Mo_balance.cls ∈ zw_WS ∧ (ym_Mo_balance.cls ≠ "java/lang/invoke/MethodHandle" ∧ ym_Mo_balance.cls ≠ "java/lang/invoke/VarHandle" ∧ (parseMethodDescriptor ym_Mo_balance.desc).map (fun d => d.parameters.length) = some 3) := ⟨zw_mem 742 (by decide +kernel) rfl, zw_mem 34 (by decide +kernel) rfl, by decide +kernel, by decide +kernel, by decide +kernel⟩
theorem za_Mo_balance : Cond.instanceMethod ym_Mo_balance ∈ zw_WS := zw_mem 740 (by decide +kernel) rfl
theorem zb_Mo_balance : Cond.selects ym_Mo_balance.cls ym_Mo_balance ym_Mo_balance ∈ zw_WS := zw_mem 741 (by decide +kernel) rfl
def ym_Mo_escrow : MethodName := ⟨"TwinLedgersModel", "escrow", "(III)I"⟩
abbrev bm_Mo_escrow : ByteArray := prog_9_method_36_code
theorem zk_Mo_escrow : Cond.code ym_Mo_escrow bm_Mo_escrow 4 (some .int) ∈ zw_WS ∧ Cond.initialized ym_Mo_escrow.cls ∈ zw_WS ∧ (ym_Mo_escrow.cls ≠ "java/lang/invoke/MethodHandle" ∧ ym_Mo_escrow.cls ≠ "java/lang/invoke/VarHandle" ∧ (parseMethodDescriptor ym_Mo_escrow.desc).map (fun d => d.parameters.length) = some 3) := ⟨zw_mem 746 (by decide +kernel) rfl, zw_mem 34 (by decide +kernel) rfl, by decide +kernel, by decide +kernel, by decide +kernel⟩
theorem za_Mo_escrow : Cond.instanceMethod ym_Mo_escrow ∈ zw_WS := zw_mem 744 (by decide +kernel) rfl
theorem zb_Mo_escrow : Cond.selects ym_Mo_escrow.cls ym_Mo_escrow ym_Mo_escrow ∈ zw_WS := zw_mem 745 (by decide +kernel) rfl
def ym_Mo_voucher : MethodName := ⟨"TwinLedgersModel", "voucher", "(II)I"⟩
abbrev bm_Mo_voucher : ByteArray := prog_9_method_37_code
theorem zk_Mo_voucher : Cond.code ym_Mo_voucher bm_Mo_voucher 3 (some .int) ∈ zw_WS ∧ Cond.initialized ym_Mo_voucher.cls ∈ zw_WS ∧ (ym_Mo_voucher.cls ≠ "java/lang/invoke/MethodHandle" ∧ ym_Mo_voucher.cls ≠ "java/lang/invoke/VarHandle" ∧ (parseMethodDescriptor ym_Mo_voucher.desc).map (fun d => d.parameters.length) = some 2) := ⟨zw_mem 750 (by decide +kernel) rfl, zw_mem 34 (by decide +kernel) rfl, by decide +kernel, by decide +kernel, by decide +kernel⟩
theorem za_Mo_voucher : Cond.instanceMethod ym_Mo_voucher ∈ zw_WS := zw_mem 748 (by decide +kernel) rfl
theorem zb_Mo_voucher : Cond.selects ym_Mo_voucher.cls ym_Mo_voucher ym_Mo_voucher ∈ zw_WS := zw_mem 749 (by decide +kernel) rfl
def ym_Integer_bitCount : MethodName := ⟨"java/lang/Integer", "bitCount", "(I)I"⟩
abbrev bm_Integer_bitCount : ByteArray := prog_10_method_49_code
theorem zk_Integer_bitCount : Cond.code ym_Integer_bitCount bm_Integer_bitCount 1 (some .int) ∈ zw_WS ∧ Cond.initialized ym_Integer_bitCount.cls ∈ zw_WS ∧ (ym_Integer_bitCount.cls ≠ "java/lang/invoke/MethodHandle" ∧ ym_Integer_bitCount.cls ≠ "java/lang/invoke/VarHandle" ∧ (parseMethodDescriptor ym_Integer_bitCount.desc).map (fun d => d.parameters.length) = some 1) := ⟨zw_mem 229 (by decide +kernel) rfl, zw_mem 35 (by decide +kernel) rfl, by decide +kernel, by decide +kernel, by decide +kernel⟩
theorem za_Integer_bitCount : Cond.static ym_Integer_bitCount ∈ zw_WS := zw_mem 228 (by decide +kernel) rfl
end
section
theorem dd_TL_ctor_0 : decode bm_TL_ctor 0 = .ok (.aload_n 0, 1) := by decide +kernel
theorem dd_TL_ctor_1 : decode bm_TL_ctor 1 = .ok (.invokespecial 1, 3) := by decide +kernel
theorem dd_TL_ctor_4 : decode bm_TL_ctor 4 = .ok (.aload_n 0, 1) := by decide +kernel
theorem dd_TL_ctor_5 : decode bm_TL_ctor 5 = .ok (.iconst 2, 1) := by decide +kernel
theorem dd_TL_ctor_6 : decode bm_TL_ctor 6 = .ok (.anewarray 9, 3) := by decide +kernel
theorem dd_TL_ctor_9 : decode bm_TL_ctor 9 = .ok (.putfield 11, 3) := by decide +kernel
theorem dd_TL_ctor_12 : decode bm_TL_ctor 12 = .ok (.aload_n 0, 1) := by decide +kernel
theorem dd_TL_ctor_13 : decode bm_TL_ctor 13 = .ok (.iload_n 1, 1) := by decide +kernel
theorem dd_TL_ctor_14 : decode bm_TL_ctor 14 = .ok (.iconst 1, 1) := by decide +kernel
theorem dd_TL_ctor_15 : decode bm_TL_ctor 15 = .ok (.if_icmp .lt 13, 3) := by decide +kernel
theorem dd_TL_ctor_18 : decode bm_TL_ctor 18 = .ok (.iload_n 1, 1) := by decide +kernel
theorem dd_TL_ctor_19 : decode bm_TL_ctor 19 = .ok (.bipush 16, 2) := by decide +kernel
theorem dd_TL_ctor_21 : decode bm_TL_ctor 21 = .ok (.if_icmp .gt 7, 3) := by decide +kernel
theorem dd_TL_ctor_24 : decode bm_TL_ctor 24 = .ok (.iload_n 1, 1) := by decide +kernel
theorem dd_TL_ctor_25 : decode bm_TL_ctor 25 = .ok (.goto 4, 3) := by decide +kernel
theorem dd_TL_ctor_28 : decode bm_TL_ctor 28 = .ok (.iconst 4, 1) := by decide +kernel
theorem dd_TL_ctor_29 : decode bm_TL_ctor 29 = .ok (.putfield 15, 3) := by decide +kernel
theorem dd_TL_ctor_32 : decode bm_TL_ctor 32 = .ok (.iconst 0, 1) := by decide +kernel
theorem dd_TL_ctor_33 : decode bm_TL_ctor 33 = .ok (.istore_n 2, 1) := by decide +kernel
theorem dd_TL_ctor_34 : decode bm_TL_ctor 34 = .ok (.iload_n 2, 1) := by decide +kernel
theorem dd_TL_ctor_35 : decode bm_TL_ctor 35 = .ok (.iconst 2, 1) := by decide +kernel
theorem dd_TL_ctor_36 : decode bm_TL_ctor 36 = .ok (.if_icmp .ge 22, 3) := by decide +kernel
theorem dd_TL_ctor_39 : decode bm_TL_ctor 39 = .ok (.aload_n 0, 1) := by decide +kernel
theorem dd_TL_ctor_40 : decode bm_TL_ctor 40 = .ok (.getfield 11, 3) := by decide +kernel
theorem dd_TL_ctor_43 : decode bm_TL_ctor 43 = .ok (.iload_n 2, 1) := by decide +kernel
theorem dd_TL_ctor_44 : decode bm_TL_ctor 44 = .ok (.new 9, 3) := by decide +kernel
theorem dd_TL_ctor_47 : decode bm_TL_ctor 47 = .ok (.dup, 1) := by decide +kernel
theorem dd_TL_ctor_48 : decode bm_TL_ctor 48 = .ok (.invokespecial 19, 3) := by decide +kernel
theorem dd_TL_ctor_51 : decode bm_TL_ctor 51 = .ok (.aastore, 1) := by decide +kernel
theorem dd_TL_ctor_52 : decode bm_TL_ctor 52 = .ok (.iinc 2 1, 3) := by decide +kernel
theorem dd_TL_ctor_55 : decode bm_TL_ctor 55 = .ok (.goto (-21), 3) := by decide +kernel
theorem dd_TL_ctor_58 : decode bm_TL_ctor 58 = .ok (.return_, 1) := by decide +kernel
theorem dd_TL_tick_0 : decode bm_TL_tick 0 = .ok (.iload_n 1, 1) := by decide +kernel
theorem dd_TL_tick_1 : decode bm_TL_tick 1 = .ok (.invokestatic 20, 3) := by decide +kernel
theorem dd_TL_tick_4 : decode bm_TL_tick 4 = .ok (.ifCond .eq 15, 3) := by decide +kernel
theorem dd_TL_tick_7 : decode bm_TL_tick 7 = .ok (.aload_n 0, 1) := by decide +kernel
theorem dd_TL_tick_8 : decode bm_TL_tick 8 = .ok (.getfield 11, 3) := by decide +kernel
theorem dd_TL_tick_11 : decode bm_TL_tick 11 = .ok (.iload_n 1, 1) := by decide +kernel
theorem dd_TL_tick_12 : decode bm_TL_tick 12 = .ok (.aaload, 1) := by decide +kernel
theorem dd_TL_tick_13 : decode bm_TL_tick 13 = .ok (.invokevirtual 24, 3) := by decide +kernel
theorem dd_TL_tick_16 : decode bm_TL_tick 16 = .ok (.goto 4, 3) := by decide +kernel
theorem dd_TL_tick_19 : decode bm_TL_tick 19 = .ok (.iconst (-1), 1) := by decide +kernel
theorem dd_TL_tick_20 : decode bm_TL_tick 20 = .ok (.ireturn, 1) := by decide +kernel
theorem dd_TL_update_0 : decode bm_TL_update 0 = .ok (.iload_n 1, 1) := by decide +kernel
theorem dd_TL_update_1 : decode bm_TL_update 1 = .ok (.invokestatic 20, 3) := by decide +kernel
theorem dd_TL_update_4 : decode bm_TL_update 4 = .ok (.ifCond .eq 23, 3) := by decide +kernel
theorem dd_TL_update_7 : decode bm_TL_update 7 = .ok (.iload_n 2, 1) := by decide +kernel
theorem dd_TL_update_8 : decode bm_TL_update 8 = .ok (.iconst 1, 1) := by decide +kernel
theorem dd_TL_update_9 : decode bm_TL_update 9 = .ok (.if_icmp .lt 18, 3) := by decide +kernel
theorem dd_TL_update_12 : decode bm_TL_update 12 = .ok (.iload_n 2, 1) := by decide +kernel
theorem dd_TL_update_13 : decode bm_TL_update 13 = .ok (.aload_n 0, 1) := by decide +kernel
theorem dd_TL_update_14 : decode bm_TL_update 14 = .ok (.getfield 11, 3) := by decide +kernel
theorem dd_TL_update_17 : decode bm_TL_update 17 = .ok (.iconst 1, 1) := by decide +kernel
theorem dd_TL_update_18 : decode bm_TL_update 18 = .ok (.iload_n 1, 1) := by decide +kernel
theorem dd_TL_update_19 : decode bm_TL_update 19 = .ok (.isub, 1) := by decide +kernel
theorem dd_TL_update_20 : decode bm_TL_update 20 = .ok (.aaload, 1) := by decide +kernel
theorem dd_TL_update_21 : decode bm_TL_update 21 = .ok (.getfield 28, 3) := by decide +kernel
theorem dd_TL_update_24 : decode bm_TL_update 24 = .ok (.if_icmp .le 5, 3) := by decide +kernel
theorem dd_TL_update_27 : decode bm_TL_update 27 = .ok (.iconst (-1), 1) := by decide +kernel
theorem dd_TL_update_28 : decode bm_TL_update 28 = .ok (.ireturn, 1) := by decide +kernel
theorem dd_TL_update_29 : decode bm_TL_update 29 = .ok (.iload 4, 2) := by decide +kernel
theorem dd_TL_update_31 : decode bm_TL_update 31 = .ok (.ifCond .ne 14, 3) := by decide +kernel
theorem dd_TL_update_34 : decode bm_TL_update 34 = .ok (.iload_n 3, 1) := by decide +kernel
theorem dd_TL_update_35 : decode bm_TL_update 35 = .ok (.bipush 15, 2) := by decide +kernel
theorem dd_TL_update_37 : decode bm_TL_update 37 = .ok (.iand, 1) := by decide +kernel
theorem dd_TL_update_38 : decode bm_TL_update 38 = .ok (.invokestatic 31, 3) := by decide +kernel
theorem dd_TL_update_41 : decode bm_TL_update 41 = .ok (.iconst 3, 1) := by decide +kernel
theorem dd_TL_update_42 : decode bm_TL_update 42 = .ok (.if_icmp .ge 6, 3) := by decide +kernel
theorem dd_TL_update_45 : decode bm_TL_update 45 = .ok (.bipush (-6), 2) := by decide +kernel
theorem dd_TL_update_47 : decode bm_TL_update 47 = .ok (.ireturn, 1) := by decide +kernel
theorem dd_TL_update_48 : decode bm_TL_update 48 = .ok (.aload_n 0, 1) := by decide +kernel
theorem dd_TL_update_49 : decode bm_TL_update 49 = .ok (.getfield 11, 3) := by decide +kernel
theorem dd_TL_update_52 : decode bm_TL_update 52 = .ok (.iload_n 1, 1) := by decide +kernel
theorem dd_TL_update_53 : decode bm_TL_update 53 = .ok (.aaload, 1) := by decide +kernel
theorem dd_TL_update_54 : decode bm_TL_update 54 = .ok (.getfield 37, 3) := by decide +kernel
theorem dd_TL_update_57 : decode bm_TL_update 57 = .ok (.iload_n 2, 1) := by decide +kernel
theorem dd_TL_update_58 : decode bm_TL_update 58 = .ok (.invokevirtual 41, 3) := by decide +kernel
theorem dd_TL_update_61 : decode bm_TL_update 61 = .ok (.iconst 0, 1) := by decide +kernel
theorem dd_TL_update_62 : decode bm_TL_update 62 = .ok (.ireturn, 1) := by decide +kernel
theorem dd_TL_init_0 : decode bm_TL_init 0 = .ok (.iload_n 1, 1) := by decide +kernel
theorem dd_TL_init_1 : decode bm_TL_init 1 = .ok (.iload_n 2, 1) := by decide +kernel
theorem dd_TL_init_2 : decode bm_TL_init 2 = .ok (.invokestatic 47, 3) := by decide +kernel
theorem dd_TL_init_5 : decode bm_TL_init 5 = .ok (.ifCond .eq 17, 3) := by decide +kernel
theorem dd_TL_init_8 : decode bm_TL_init 8 = .ok (.aload_n 0, 1) := by decide +kernel
theorem dd_TL_init_9 : decode bm_TL_init 9 = .ok (.getfield 11, 3) := by decide +kernel
theorem dd_TL_init_12 : decode bm_TL_init 12 = .ok (.iload_n 1, 1) := by decide +kernel
theorem dd_TL_init_13 : decode bm_TL_init 13 = .ok (.aaload, 1) := by decide +kernel
theorem dd_TL_init_14 : decode bm_TL_init 14 = .ok (.iload_n 2, 1) := by decide +kernel
theorem dd_TL_init_15 : decode bm_TL_init 15 = .ok (.iload_n 3, 1) := by decide +kernel
theorem dd_TL_init_16 : decode bm_TL_init 16 = .ok (.invokevirtual 51, 3) := by decide +kernel
theorem dd_TL_init_19 : decode bm_TL_init 19 = .ok (.goto 4, 3) := by decide +kernel
theorem dd_TL_init_22 : decode bm_TL_init 22 = .ok (.iconst (-1), 1) := by decide +kernel
theorem dd_TL_init_23 : decode bm_TL_init 23 = .ok (.ireturn, 1) := by decide +kernel
theorem dd_TL_attempt_0 : decode bm_TL_attempt 0 = .ok (.iload_n 1, 1) := by decide +kernel
theorem dd_TL_attempt_1 : decode bm_TL_attempt 1 = .ok (.iload_n 2, 1) := by decide +kernel
theorem dd_TL_attempt_2 : decode bm_TL_attempt 2 = .ok (.invokestatic 47, 3) := by decide +kernel
theorem dd_TL_attempt_5 : decode bm_TL_attempt 5 = .ok (.ifCond .eq 27, 3) := by decide +kernel
theorem dd_TL_attempt_8 : decode bm_TL_attempt 8 = .ok (.aload_n 0, 1) := by decide +kernel
theorem dd_TL_attempt_9 : decode bm_TL_attempt 9 = .ok (.getfield 11, 3) := by decide +kernel
theorem dd_TL_attempt_12 : decode bm_TL_attempt 12 = .ok (.iload_n 1, 1) := by decide +kernel
theorem dd_TL_attempt_13 : decode bm_TL_attempt 13 = .ok (.aaload, 1) := by decide +kernel
theorem dd_TL_attempt_14 : decode bm_TL_attempt 14 = .ok (.aload_n 0, 1) := by decide +kernel
theorem dd_TL_attempt_15 : decode bm_TL_attempt 15 = .ok (.getfield 11, 3) := by decide +kernel
theorem dd_TL_attempt_18 : decode bm_TL_attempt 18 = .ok (.iconst 1, 1) := by decide +kernel
theorem dd_TL_attempt_19 : decode bm_TL_attempt 19 = .ok (.iload_n 1, 1) := by decide +kernel
theorem dd_TL_attempt_20 : decode bm_TL_attempt 20 = .ok (.isub, 1) := by decide +kernel
theorem dd_TL_attempt_21 : decode bm_TL_attempt 21 = .ok (.aaload, 1) := by decide +kernel
theorem dd_TL_attempt_22 : decode bm_TL_attempt 22 = .ok (.iload_n 2, 1) := by decide +kernel
theorem dd_TL_attempt_23 : decode bm_TL_attempt 23 = .ok (.iload_n 3, 1) := by decide +kernel
theorem dd_TL_attempt_24 : decode bm_TL_attempt 24 = .ok (.iload 4, 2) := by decide +kernel
theorem dd_TL_attempt_26 : decode bm_TL_attempt 26 = .ok (.invokevirtual 55, 3) := by decide +kernel
theorem dd_TL_attempt_29 : decode bm_TL_attempt 29 = .ok (.goto 4, 3) := by decide +kernel
theorem dd_TL_attempt_32 : decode bm_TL_attempt 32 = .ok (.iconst (-1), 1) := by decide +kernel
theorem dd_TL_attempt_33 : decode bm_TL_attempt 33 = .ok (.ireturn, 1) := by decide +kernel
theorem dd_TL_open_0 : decode bm_TL_open 0 = .ok (.iload_n 1, 1) := by decide +kernel
theorem dd_TL_open_1 : decode bm_TL_open 1 = .ok (.iload_n 2, 1) := by decide +kernel
theorem dd_TL_open_2 : decode bm_TL_open 2 = .ok (.invokestatic 47, 3) := by decide +kernel
theorem dd_TL_open_5 : decode bm_TL_open 5 = .ok (.ifCond .ne 5, 3) := by decide +kernel
theorem dd_TL_open_8 : decode bm_TL_open 8 = .ok (.iconst (-1), 1) := by decide +kernel
theorem dd_TL_open_9 : decode bm_TL_open 9 = .ok (.ireturn, 1) := by decide +kernel
theorem dd_TL_open_10 : decode bm_TL_open 10 = .ok (.aload_n 0, 1) := by decide +kernel
theorem dd_TL_open_11 : decode bm_TL_open 11 = .ok (.getfield 11, 3) := by decide +kernel
theorem dd_TL_open_14 : decode bm_TL_open 14 = .ok (.iload_n 1, 1) := by decide +kernel
theorem dd_TL_open_15 : decode bm_TL_open 15 = .ok (.aaload, 1) := by decide +kernel
theorem dd_TL_open_16 : decode bm_TL_open 16 = .ok (.astore 5, 2) := by decide +kernel
theorem dd_TL_open_18 : decode bm_TL_open 18 = .ok (.aload_n 0, 1) := by decide +kernel
theorem dd_TL_open_19 : decode bm_TL_open 19 = .ok (.getfield 11, 3) := by decide +kernel
theorem dd_TL_open_22 : decode bm_TL_open 22 = .ok (.iconst 1, 1) := by decide +kernel
theorem dd_TL_open_23 : decode bm_TL_open 23 = .ok (.iload_n 1, 1) := by decide +kernel
theorem dd_TL_open_24 : decode bm_TL_open 24 = .ok (.isub, 1) := by decide +kernel
theorem dd_TL_open_25 : decode bm_TL_open 25 = .ok (.aaload, 1) := by decide +kernel
theorem dd_TL_open_26 : decode bm_TL_open 26 = .ok (.astore 6, 2) := by decide +kernel
theorem dd_TL_open_28 : decode bm_TL_open 28 = .ok (.iload_n 3, 1) := by decide +kernel
theorem dd_TL_open_29 : decode bm_TL_open 29 = .ok (.tableswitch 69 0 2 #[27, 41, 55], 27) := by decide +kernel
theorem dd_TL_open_56 : decode bm_TL_open 56 = .ok (.aload 5, 2) := by decide +kernel
theorem dd_TL_open_58 : decode bm_TL_open 58 = .ok (.aload 6, 2) := by decide +kernel
theorem dd_TL_open_60 : decode bm_TL_open 60 = .ok (.iload_n 2, 1) := by decide +kernel
theorem dd_TL_open_61 : decode bm_TL_open 61 = .ok (.iload 4, 2) := by decide +kernel
theorem dd_TL_open_63 : decode bm_TL_open 63 = .ok (.iconst 1, 1) := by decide +kernel
theorem dd_TL_open_64 : decode bm_TL_open 64 = .ok (.iconst 2, 1) := by decide +kernel
theorem dd_TL_open_65 : decode bm_TL_open 65 = .ok (.iconst 3, 1) := by decide +kernel
theorem dd_TL_open_66 : decode bm_TL_open 66 = .ok (.invokevirtual 59, 3) := by decide +kernel
theorem dd_TL_open_69 : decode bm_TL_open 69 = .ok (.ireturn, 1) := by decide +kernel
theorem dd_TL_open_70 : decode bm_TL_open 70 = .ok (.aload 5, 2) := by decide +kernel
theorem dd_TL_open_72 : decode bm_TL_open 72 = .ok (.aload 6, 2) := by decide +kernel
theorem dd_TL_open_74 : decode bm_TL_open 74 = .ok (.iload_n 2, 1) := by decide +kernel
theorem dd_TL_open_75 : decode bm_TL_open 75 = .ok (.iload 4, 2) := by decide +kernel
theorem dd_TL_open_77 : decode bm_TL_open 77 = .ok (.iconst 2, 1) := by decide +kernel
theorem dd_TL_open_78 : decode bm_TL_open 78 = .ok (.iconst 3, 1) := by decide +kernel
theorem dd_TL_open_79 : decode bm_TL_open 79 = .ok (.iconst 3, 1) := by decide +kernel
theorem dd_TL_open_80 : decode bm_TL_open 80 = .ok (.invokevirtual 59, 3) := by decide +kernel
theorem dd_TL_open_83 : decode bm_TL_open 83 = .ok (.ireturn, 1) := by decide +kernel
theorem dd_TL_open_84 : decode bm_TL_open 84 = .ok (.aload 5, 2) := by decide +kernel
theorem dd_TL_open_86 : decode bm_TL_open 86 = .ok (.aload 6, 2) := by decide +kernel
theorem dd_TL_open_88 : decode bm_TL_open 88 = .ok (.iload_n 2, 1) := by decide +kernel
theorem dd_TL_open_89 : decode bm_TL_open 89 = .ok (.iload 4, 2) := by decide +kernel
theorem dd_TL_open_91 : decode bm_TL_open 91 = .ok (.iconst 3, 1) := by decide +kernel
theorem dd_TL_open_92 : decode bm_TL_open 92 = .ok (.iconst 4, 1) := by decide +kernel
theorem dd_TL_open_93 : decode bm_TL_open 93 = .ok (.iconst 4, 1) := by decide +kernel
theorem dd_TL_open_94 : decode bm_TL_open 94 = .ok (.invokevirtual 59, 3) := by decide +kernel
theorem dd_TL_open_97 : decode bm_TL_open 97 = .ok (.ireturn, 1) := by decide +kernel
theorem dd_TL_open_98 : decode bm_TL_open 98 = .ok (.iconst (-1), 1) := by decide +kernel
theorem dd_TL_open_99 : decode bm_TL_open 99 = .ok (.ireturn, 1) := by decide +kernel
theorem dd_TL_close_0 : decode bm_TL_close 0 = .ok (.iload_n 1, 1) := by decide +kernel
theorem dd_TL_close_1 : decode bm_TL_close 1 = .ok (.iload_n 2, 1) := by decide +kernel
theorem dd_TL_close_2 : decode bm_TL_close 2 = .ok (.invokestatic 47, 3) := by decide +kernel
theorem dd_TL_close_5 : decode bm_TL_close 5 = .ok (.ifCond .eq 16, 3) := by decide +kernel
theorem dd_TL_close_8 : decode bm_TL_close 8 = .ok (.aload_n 0, 1) := by decide +kernel
theorem dd_TL_close_9 : decode bm_TL_close 9 = .ok (.getfield 11, 3) := by decide +kernel
theorem dd_TL_close_12 : decode bm_TL_close 12 = .ok (.iload_n 1, 1) := by decide +kernel
theorem dd_TL_close_13 : decode bm_TL_close 13 = .ok (.aaload, 1) := by decide +kernel
theorem dd_TL_close_14 : decode bm_TL_close 14 = .ok (.iload_n 2, 1) := by decide +kernel
theorem dd_TL_close_15 : decode bm_TL_close 15 = .ok (.invokevirtual 63, 3) := by decide +kernel
theorem dd_TL_close_18 : decode bm_TL_close 18 = .ok (.goto 4, 3) := by decide +kernel
theorem dd_TL_close_21 : decode bm_TL_close 21 = .ok (.iconst (-1), 1) := by decide +kernel
theorem dd_TL_close_22 : decode bm_TL_close 22 = .ok (.ireturn, 1) := by decide +kernel
theorem dd_TL_send_0 : decode bm_TL_send 0 = .ok (.iload_n 1, 1) := by decide +kernel
theorem dd_TL_send_1 : decode bm_TL_send 1 = .ok (.iload_n 2, 1) := by decide +kernel
theorem dd_TL_send_2 : decode bm_TL_send 2 = .ok (.invokestatic 47, 3) := by decide +kernel
theorem dd_TL_send_5 : decode bm_TL_send 5 = .ok (.ifCond .eq 27, 3) := by decide +kernel
theorem dd_TL_send_8 : decode bm_TL_send 8 = .ok (.iload_n 3, 1) := by decide +kernel
theorem dd_TL_send_9 : decode bm_TL_send 9 = .ok (.ifCond .lt 23, 3) := by decide +kernel
theorem dd_TL_send_12 : decode bm_TL_send 12 = .ok (.iload_n 3, 1) := by decide +kernel
theorem dd_TL_send_13 : decode bm_TL_send 13 = .ok (.bipush 16, 2) := by decide +kernel
theorem dd_TL_send_15 : decode bm_TL_send 15 = .ok (.if_icmp .ge 17, 3) := by decide +kernel
theorem dd_TL_send_18 : decode bm_TL_send 18 = .ok (.iload 5, 2) := by decide +kernel
theorem dd_TL_send_20 : decode bm_TL_send 20 = .ok (.iconst 1, 1) := by decide +kernel
theorem dd_TL_send_21 : decode bm_TL_send 21 = .ok (.if_icmp .lt 11, 3) := by decide +kernel
theorem dd_TL_send_24 : decode bm_TL_send 24 = .ok (.iload 5, 2) := by decide +kernel
theorem dd_TL_send_26 : decode bm_TL_send 26 = .ok (.sipush 1000, 3) := by decide +kernel
theorem dd_TL_send_29 : decode bm_TL_send 29 = .ok (.if_icmp .le 5, 3) := by decide +kernel
theorem dd_TL_send_32 : decode bm_TL_send 32 = .ok (.iconst (-1), 1) := by decide +kernel
theorem dd_TL_send_33 : decode bm_TL_send 33 = .ok (.ireturn, 1) := by decide +kernel
theorem dd_TL_send_34 : decode bm_TL_send 34 = .ok (.aload_n 0, 1) := by decide +kernel
theorem dd_TL_send_35 : decode bm_TL_send 35 = .ok (.getfield 11, 3) := by decide +kernel
theorem dd_TL_send_38 : decode bm_TL_send 38 = .ok (.iload_n 1, 1) := by decide +kernel
theorem dd_TL_send_39 : decode bm_TL_send 39 = .ok (.aaload, 1) := by decide +kernel
theorem dd_TL_send_40 : decode bm_TL_send 40 = .ok (.getfield 66, 3) := by decide +kernel
theorem dd_TL_send_43 : decode bm_TL_send 43 = .ok (.iload 4, 2) := by decide +kernel
theorem dd_TL_send_45 : decode bm_TL_send 45 = .ok (.invokevirtual 70, 3) := by decide +kernel
theorem dd_TL_send_48 : decode bm_TL_send 48 = .ok (.ifCond .ne 5, 3) := by decide +kernel
theorem dd_TL_send_51 : decode bm_TL_send 51 = .ok (.iconst (-1), 1) := by decide +kernel
theorem dd_TL_send_52 : decode bm_TL_send 52 = .ok (.ireturn, 1) := by decide +kernel
theorem dd_TL_send_53 : decode bm_TL_send 53 = .ok (.aload_n 0, 1) := by decide +kernel
theorem dd_TL_send_54 : decode bm_TL_send 54 = .ok (.getfield 11, 3) := by decide +kernel
theorem dd_TL_send_57 : decode bm_TL_send 57 = .ok (.iload_n 1, 1) := by decide +kernel
theorem dd_TL_send_58 : decode bm_TL_send 58 = .ok (.aaload, 1) := by decide +kernel
theorem dd_TL_send_59 : decode bm_TL_send 59 = .ok (.iload_n 2, 1) := by decide +kernel
theorem dd_TL_send_60 : decode bm_TL_send 60 = .ok (.iload_n 3, 1) := by decide +kernel
theorem dd_TL_send_61 : decode bm_TL_send 61 = .ok (.iload 4, 2) := by decide +kernel
theorem dd_TL_send_63 : decode bm_TL_send 63 = .ok (.iload 5, 2) := by decide +kernel
theorem dd_TL_send_65 : decode bm_TL_send 65 = .ok (.aload_n 0, 1) := by decide +kernel
theorem dd_TL_send_66 : decode bm_TL_send 66 = .ok (.getfield 15, 3) := by decide +kernel
theorem dd_TL_send_69 : decode bm_TL_send 69 = .ok (.invokevirtual 75, 3) := by decide +kernel
theorem dd_TL_send_72 : decode bm_TL_send 72 = .ok (.ireturn, 1) := by decide +kernel
theorem dd_TL_receive_0 : decode bm_TL_receive 0 = .ok (.iload_n 1, 1) := by decide +kernel
theorem dd_TL_receive_1 : decode bm_TL_receive 1 = .ok (.iload_n 2, 1) := by decide +kernel
theorem dd_TL_receive_2 : decode bm_TL_receive 2 = .ok (.invokestatic 47, 3) := by decide +kernel
theorem dd_TL_receive_5 : decode bm_TL_receive 5 = .ok (.ifCond .eq 15, 3) := by decide +kernel
theorem dd_TL_receive_8 : decode bm_TL_receive 8 = .ok (.aload_n 0, 1) := by decide +kernel
theorem dd_TL_receive_9 : decode bm_TL_receive 9 = .ok (.iconst 1, 1) := by decide +kernel
theorem dd_TL_receive_10 : decode bm_TL_receive 10 = .ok (.iload_n 1, 1) := by decide +kernel
theorem dd_TL_receive_11 : decode bm_TL_receive 11 = .ok (.isub, 1) := by decide +kernel
theorem dd_TL_receive_12 : decode bm_TL_receive 12 = .ok (.iload_n 2, 1) := by decide +kernel
theorem dd_TL_receive_13 : decode bm_TL_receive 13 = .ok (.iload_n 3, 1) := by decide +kernel
theorem dd_TL_receive_14 : decode bm_TL_receive 14 = .ok (.invokevirtual 79, 3) := by decide +kernel
theorem dd_TL_receive_17 : decode bm_TL_receive 17 = .ok (.ifCond .ne 5, 3) := by decide +kernel
theorem dd_TL_receive_20 : decode bm_TL_receive 20 = .ok (.iconst (-1), 1) := by decide +kernel
theorem dd_TL_receive_21 : decode bm_TL_receive 21 = .ok (.ireturn, 1) := by decide +kernel
theorem dd_TL_receive_22 : decode bm_TL_receive 22 = .ok (.aload_n 0, 1) := by decide +kernel
theorem dd_TL_receive_23 : decode bm_TL_receive 23 = .ok (.getfield 11, 3) := by decide +kernel
theorem dd_TL_receive_26 : decode bm_TL_receive 26 = .ok (.iload_n 1, 1) := by decide +kernel
theorem dd_TL_receive_27 : decode bm_TL_receive 27 = .ok (.aaload, 1) := by decide +kernel
theorem dd_TL_receive_28 : decode bm_TL_receive 28 = .ok (.aload_n 0, 1) := by decide +kernel
theorem dd_TL_receive_29 : decode bm_TL_receive 29 = .ok (.getfield 11, 3) := by decide +kernel
theorem dd_TL_receive_32 : decode bm_TL_receive 32 = .ok (.iconst 1, 1) := by decide +kernel
theorem dd_TL_receive_33 : decode bm_TL_receive 33 = .ok (.iload_n 1, 1) := by decide +kernel
theorem dd_TL_receive_34 : decode bm_TL_receive 34 = .ok (.isub, 1) := by decide +kernel
theorem dd_TL_receive_35 : decode bm_TL_receive 35 = .ok (.aaload, 1) := by decide +kernel
theorem dd_TL_receive_36 : decode bm_TL_receive 36 = .ok (.iload_n 2, 1) := by decide +kernel
theorem dd_TL_receive_37 : decode bm_TL_receive 37 = .ok (.iload_n 3, 1) := by decide +kernel
theorem dd_TL_receive_38 : decode bm_TL_receive 38 = .ok (.iload 4, 2) := by decide +kernel
theorem dd_TL_receive_40 : decode bm_TL_receive 40 = .ok (.iload 5, 2) := by decide +kernel
theorem dd_TL_receive_42 : decode bm_TL_receive 42 = .ok (.invokevirtual 83, 3) := by decide +kernel
theorem dd_TL_receive_45 : decode bm_TL_receive 45 = .ok (.ireturn, 1) := by decide +kernel
theorem dd_TL_acknowledge_0 : decode bm_TL_acknowledge 0 = .ok (.aload_n 0, 1) := by decide +kernel
theorem dd_TL_acknowledge_1 : decode bm_TL_acknowledge 1 = .ok (.iload_n 1, 1) := by decide +kernel
theorem dd_TL_acknowledge_2 : decode bm_TL_acknowledge 2 = .ok (.iload_n 2, 1) := by decide +kernel
theorem dd_TL_acknowledge_3 : decode bm_TL_acknowledge 3 = .ok (.iload_n 3, 1) := by decide +kernel
theorem dd_TL_acknowledge_4 : decode bm_TL_acknowledge 4 = .ok (.invokevirtual 79, 3) := by decide +kernel
theorem dd_TL_acknowledge_7 : decode bm_TL_acknowledge 7 = .ok (.ifCond .eq 27, 3) := by decide +kernel
theorem dd_TL_acknowledge_10 : decode bm_TL_acknowledge 10 = .ok (.aload_n 0, 1) := by decide +kernel
theorem dd_TL_acknowledge_11 : decode bm_TL_acknowledge 11 = .ok (.getfield 11, 3) := by decide +kernel
theorem dd_TL_acknowledge_14 : decode bm_TL_acknowledge 14 = .ok (.iload_n 1, 1) := by decide +kernel
theorem dd_TL_acknowledge_15 : decode bm_TL_acknowledge 15 = .ok (.aaload, 1) := by decide +kernel
theorem dd_TL_acknowledge_16 : decode bm_TL_acknowledge 16 = .ok (.aload_n 0, 1) := by decide +kernel
theorem dd_TL_acknowledge_17 : decode bm_TL_acknowledge 17 = .ok (.getfield 11, 3) := by decide +kernel
theorem dd_TL_acknowledge_20 : decode bm_TL_acknowledge 20 = .ok (.iconst 1, 1) := by decide +kernel
theorem dd_TL_acknowledge_21 : decode bm_TL_acknowledge 21 = .ok (.iload_n 1, 1) := by decide +kernel
theorem dd_TL_acknowledge_22 : decode bm_TL_acknowledge 22 = .ok (.isub, 1) := by decide +kernel
theorem dd_TL_acknowledge_23 : decode bm_TL_acknowledge 23 = .ok (.aaload, 1) := by decide +kernel
theorem dd_TL_acknowledge_24 : decode bm_TL_acknowledge 24 = .ok (.iload_n 2, 1) := by decide +kernel
theorem dd_TL_acknowledge_25 : decode bm_TL_acknowledge 25 = .ok (.iload_n 3, 1) := by decide +kernel
theorem dd_TL_acknowledge_26 : decode bm_TL_acknowledge 26 = .ok (.iload 4, 2) := by decide +kernel
theorem dd_TL_acknowledge_28 : decode bm_TL_acknowledge 28 = .ok (.invokevirtual 87, 3) := by decide +kernel
theorem dd_TL_acknowledge_31 : decode bm_TL_acknowledge 31 = .ok (.goto 4, 3) := by decide +kernel
theorem dd_TL_acknowledge_34 : decode bm_TL_acknowledge 34 = .ok (.iconst (-1), 1) := by decide +kernel
theorem dd_TL_acknowledge_35 : decode bm_TL_acknowledge 35 = .ok (.ireturn, 1) := by decide +kernel
theorem dd_TL_timeout_0 : decode bm_TL_timeout 0 = .ok (.aload_n 0, 1) := by decide +kernel
theorem dd_TL_timeout_1 : decode bm_TL_timeout 1 = .ok (.iload_n 1, 1) := by decide +kernel
theorem dd_TL_timeout_2 : decode bm_TL_timeout 2 = .ok (.iload_n 2, 1) := by decide +kernel
theorem dd_TL_timeout_3 : decode bm_TL_timeout 3 = .ok (.iload_n 3, 1) := by decide +kernel
theorem dd_TL_timeout_4 : decode bm_TL_timeout 4 = .ok (.invokevirtual 79, 3) := by decide +kernel
theorem dd_TL_timeout_7 : decode bm_TL_timeout 7 = .ok (.ifCond .ne 5, 3) := by decide +kernel
theorem dd_TL_timeout_10 : decode bm_TL_timeout 10 = .ok (.iconst (-1), 1) := by decide +kernel
theorem dd_TL_timeout_11 : decode bm_TL_timeout 11 = .ok (.ireturn, 1) := by decide +kernel
theorem dd_TL_timeout_12 : decode bm_TL_timeout 12 = .ok (.aload_n 0, 1) := by decide +kernel
theorem dd_TL_timeout_13 : decode bm_TL_timeout 13 = .ok (.getfield 11, 3) := by decide +kernel
theorem dd_TL_timeout_16 : decode bm_TL_timeout 16 = .ok (.iload_n 1, 1) := by decide +kernel
theorem dd_TL_timeout_17 : decode bm_TL_timeout 17 = .ok (.aaload, 1) := by decide +kernel
theorem dd_TL_timeout_18 : decode bm_TL_timeout 18 = .ok (.aload_n 0, 1) := by decide +kernel
theorem dd_TL_timeout_19 : decode bm_TL_timeout 19 = .ok (.getfield 11, 3) := by decide +kernel
theorem dd_TL_timeout_22 : decode bm_TL_timeout 22 = .ok (.iconst 1, 1) := by decide +kernel
theorem dd_TL_timeout_23 : decode bm_TL_timeout 23 = .ok (.iload_n 1, 1) := by decide +kernel
theorem dd_TL_timeout_24 : decode bm_TL_timeout 24 = .ok (.isub, 1) := by decide +kernel
theorem dd_TL_timeout_25 : decode bm_TL_timeout 25 = .ok (.aaload, 1) := by decide +kernel
theorem dd_TL_timeout_26 : decode bm_TL_timeout 26 = .ok (.iload_n 2, 1) := by decide +kernel
theorem dd_TL_timeout_27 : decode bm_TL_timeout 27 = .ok (.iload_n 3, 1) := by decide +kernel
theorem dd_TL_timeout_28 : decode bm_TL_timeout 28 = .ok (.iload 4, 2) := by decide +kernel
theorem dd_TL_timeout_30 : decode bm_TL_timeout 30 = .ok (.iload 5, 2) := by decide +kernel
theorem dd_TL_timeout_32 : decode bm_TL_timeout 32 = .ok (.invokevirtual 91, 3) := by decide +kernel
theorem dd_TL_timeout_35 : decode bm_TL_timeout 35 = .ok (.ireturn, 1) := by decide +kernel
theorem dd_TL_round_0 : decode bm_TL_round 0 = .ok (.iconst 0, 1) := by decide +kernel
theorem dd_TL_round_1 : decode bm_TL_round 1 = .ok (.istore_n 1, 1) := by decide +kernel
theorem dd_TL_round_2 : decode bm_TL_round 2 = .ok (.iload_n 1, 1) := by decide +kernel
theorem dd_TL_round_3 : decode bm_TL_round 3 = .ok (.iconst 2, 1) := by decide +kernel
theorem dd_TL_round_4 : decode bm_TL_round 4 = .ok (.if_icmp .ge 19, 3) := by decide +kernel
theorem dd_TL_round_7 : decode bm_TL_round 7 = .ok (.aload_n 0, 1) := by decide +kernel
theorem dd_TL_round_8 : decode bm_TL_round 8 = .ok (.getfield 11, 3) := by decide +kernel
theorem dd_TL_round_11 : decode bm_TL_round 11 = .ok (.iload_n 1, 1) := by decide +kernel
theorem dd_TL_round_12 : decode bm_TL_round 12 = .ok (.aaload, 1) := by decide +kernel
theorem dd_TL_round_13 : decode bm_TL_round 13 = .ok (.invokevirtual 24, 3) := by decide +kernel
theorem dd_TL_round_16 : decode bm_TL_round 16 = .ok (.pop, 1) := by decide +kernel
theorem dd_TL_round_17 : decode bm_TL_round 17 = .ok (.iinc 1 1, 3) := by decide +kernel
theorem dd_TL_round_20 : decode bm_TL_round 20 = .ok (.goto (-18), 3) := by decide +kernel
theorem dd_TL_round_23 : decode bm_TL_round 23 = .ok (.iconst 0, 1) := by decide +kernel
theorem dd_TL_round_24 : decode bm_TL_round 24 = .ok (.istore_n 1, 1) := by decide +kernel
theorem dd_TL_round_25 : decode bm_TL_round 25 = .ok (.iload_n 1, 1) := by decide +kernel
theorem dd_TL_round_26 : decode bm_TL_round 26 = .ok (.iconst 2, 1) := by decide +kernel
theorem dd_TL_round_27 : decode bm_TL_round 27 = .ok (.if_icmp .ge 32, 3) := by decide +kernel
theorem dd_TL_round_30 : decode bm_TL_round 30 = .ok (.aload_n 0, 1) := by decide +kernel
theorem dd_TL_round_31 : decode bm_TL_round 31 = .ok (.getfield 11, 3) := by decide +kernel
theorem dd_TL_round_34 : decode bm_TL_round 34 = .ok (.iload_n 1, 1) := by decide +kernel
theorem dd_TL_round_35 : decode bm_TL_round 35 = .ok (.aaload, 1) := by decide +kernel
theorem dd_TL_round_36 : decode bm_TL_round 36 = .ok (.getfield 37, 3) := by decide +kernel
theorem dd_TL_round_39 : decode bm_TL_round 39 = .ok (.aload_n 0, 1) := by decide +kernel
theorem dd_TL_round_40 : decode bm_TL_round 40 = .ok (.getfield 11, 3) := by decide +kernel
theorem dd_TL_round_43 : decode bm_TL_round 43 = .ok (.iconst 1, 1) := by decide +kernel
theorem dd_TL_round_44 : decode bm_TL_round 44 = .ok (.iload_n 1, 1) := by decide +kernel
theorem dd_TL_round_45 : decode bm_TL_round 45 = .ok (.isub, 1) := by decide +kernel
theorem dd_TL_round_46 : decode bm_TL_round 46 = .ok (.aaload, 1) := by decide +kernel
theorem dd_TL_round_47 : decode bm_TL_round 47 = .ok (.getfield 28, 3) := by decide +kernel
theorem dd_TL_round_50 : decode bm_TL_round 50 = .ok (.invokevirtual 41, 3) := by decide +kernel
theorem dd_TL_round_53 : decode bm_TL_round 53 = .ok (.iinc 1 1, 3) := by decide +kernel
theorem dd_TL_round_56 : decode bm_TL_round 56 = .ok (.goto (-31), 3) := by decide +kernel
theorem dd_TL_round_59 : decode bm_TL_round 59 = .ok (.iconst 0, 1) := by decide +kernel
theorem dd_TL_round_60 : decode bm_TL_round 60 = .ok (.istore_n 1, 1) := by decide +kernel
theorem dd_TL_round_61 : decode bm_TL_round 61 = .ok (.iconst 0, 1) := by decide +kernel
theorem dd_TL_round_62 : decode bm_TL_round 62 = .ok (.istore_n 2, 1) := by decide +kernel
theorem dd_TL_round_63 : decode bm_TL_round 63 = .ok (.iload_n 2, 1) := by decide +kernel
theorem dd_TL_round_64 : decode bm_TL_round 64 = .ok (.iconst 2, 1) := by decide +kernel
theorem dd_TL_round_65 : decode bm_TL_round 65 = .ok (.if_icmp .ge 69, 3) := by decide +kernel
theorem dd_TL_round_68 : decode bm_TL_round 68 = .ok (.iload_n 1, 1) := by decide +kernel
theorem dd_TL_round_69 : decode bm_TL_round 69 = .ok (.aload_n 0, 1) := by decide +kernel
theorem dd_TL_round_70 : decode bm_TL_round 70 = .ok (.getfield 11, 3) := by decide +kernel
theorem dd_TL_round_73 : decode bm_TL_round 73 = .ok (.iload_n 2, 1) := by decide +kernel
theorem dd_TL_round_74 : decode bm_TL_round 74 = .ok (.aaload, 1) := by decide +kernel
theorem dd_TL_round_75 : decode bm_TL_round 75 = .ok (.aload_n 0, 1) := by decide +kernel
theorem dd_TL_round_76 : decode bm_TL_round 76 = .ok (.getfield 11, 3) := by decide +kernel
theorem dd_TL_round_79 : decode bm_TL_round 79 = .ok (.iconst 1, 1) := by decide +kernel
theorem dd_TL_round_80 : decode bm_TL_round 80 = .ok (.iload_n 2, 1) := by decide +kernel
theorem dd_TL_round_81 : decode bm_TL_round 81 = .ok (.isub, 1) := by decide +kernel
theorem dd_TL_round_82 : decode bm_TL_round 82 = .ok (.aaload, 1) := by decide +kernel
theorem dd_TL_round_83 : decode bm_TL_round 83 = .ok (.invokestatic 94, 3) := by decide +kernel
theorem dd_TL_round_86 : decode bm_TL_round 86 = .ok (.iadd, 1) := by decide +kernel
theorem dd_TL_round_87 : decode bm_TL_round 87 = .ok (.istore_n 1, 1) := by decide +kernel
theorem dd_TL_round_88 : decode bm_TL_round 88 = .ok (.iload_n 1, 1) := by decide +kernel
theorem dd_TL_round_89 : decode bm_TL_round 89 = .ok (.aload_n 0, 1) := by decide +kernel
theorem dd_TL_round_90 : decode bm_TL_round 90 = .ok (.getfield 11, 3) := by decide +kernel
theorem dd_TL_round_93 : decode bm_TL_round 93 = .ok (.iload_n 2, 1) := by decide +kernel
theorem dd_TL_round_94 : decode bm_TL_round 94 = .ok (.aaload, 1) := by decide +kernel
theorem dd_TL_round_95 : decode bm_TL_round 95 = .ok (.aload_n 0, 1) := by decide +kernel
theorem dd_TL_round_96 : decode bm_TL_round 96 = .ok (.getfield 11, 3) := by decide +kernel
theorem dd_TL_round_99 : decode bm_TL_round 99 = .ok (.iconst 1, 1) := by decide +kernel
theorem dd_TL_round_100 : decode bm_TL_round 100 = .ok (.iload_n 2, 1) := by decide +kernel
theorem dd_TL_round_101 : decode bm_TL_round 101 = .ok (.isub, 1) := by decide +kernel
theorem dd_TL_round_102 : decode bm_TL_round 102 = .ok (.aaload, 1) := by decide +kernel
theorem dd_TL_round_103 : decode bm_TL_round 103 = .ok (.invokestatic 98, 3) := by decide +kernel
theorem dd_TL_round_106 : decode bm_TL_round 106 = .ok (.iadd, 1) := by decide +kernel
theorem dd_TL_round_107 : decode bm_TL_round 107 = .ok (.istore_n 1, 1) := by decide +kernel
theorem dd_TL_round_108 : decode bm_TL_round 108 = .ok (.iload_n 1, 1) := by decide +kernel
theorem dd_TL_round_109 : decode bm_TL_round 109 = .ok (.aload_n 0, 1) := by decide +kernel
theorem dd_TL_round_110 : decode bm_TL_round 110 = .ok (.getfield 11, 3) := by decide +kernel
theorem dd_TL_round_113 : decode bm_TL_round 113 = .ok (.iload_n 2, 1) := by decide +kernel
theorem dd_TL_round_114 : decode bm_TL_round 114 = .ok (.aaload, 1) := by decide +kernel
theorem dd_TL_round_115 : decode bm_TL_round 115 = .ok (.aload_n 0, 1) := by decide +kernel
theorem dd_TL_round_116 : decode bm_TL_round 116 = .ok (.getfield 11, 3) := by decide +kernel
theorem dd_TL_round_119 : decode bm_TL_round 119 = .ok (.iconst 1, 1) := by decide +kernel
theorem dd_TL_round_120 : decode bm_TL_round 120 = .ok (.iload_n 2, 1) := by decide +kernel
theorem dd_TL_round_121 : decode bm_TL_round 121 = .ok (.isub, 1) := by decide +kernel
theorem dd_TL_round_122 : decode bm_TL_round 122 = .ok (.aaload, 1) := by decide +kernel
theorem dd_TL_round_123 : decode bm_TL_round 123 = .ok (.invokestatic 101, 3) := by decide +kernel
theorem dd_TL_round_126 : decode bm_TL_round 126 = .ok (.iadd, 1) := by decide +kernel
theorem dd_TL_round_127 : decode bm_TL_round 127 = .ok (.istore_n 1, 1) := by decide +kernel
theorem dd_TL_round_128 : decode bm_TL_round 128 = .ok (.iinc 2 1, 3) := by decide +kernel
theorem dd_TL_round_131 : decode bm_TL_round 131 = .ok (.goto (-68), 3) := by decide +kernel
theorem dd_TL_round_134 : decode bm_TL_round 134 = .ok (.iload_n 1, 1) := by decide +kernel
theorem dd_TL_round_135 : decode bm_TL_round 135 = .ok (.ireturn, 1) := by decide +kernel
theorem dd_TL_height_0 : decode bm_TL_height 0 = .ok (.iload_n 1, 1) := by decide +kernel
theorem dd_TL_height_1 : decode bm_TL_height 1 = .ok (.invokestatic 20, 3) := by decide +kernel
theorem dd_TL_height_4 : decode bm_TL_height 4 = .ok (.ifCond .eq 15, 3) := by decide +kernel
theorem dd_TL_height_7 : decode bm_TL_height 7 = .ok (.aload_n 0, 1) := by decide +kernel
theorem dd_TL_height_8 : decode bm_TL_height 8 = .ok (.getfield 11, 3) := by decide +kernel
theorem dd_TL_height_11 : decode bm_TL_height 11 = .ok (.iload_n 1, 1) := by decide +kernel
theorem dd_TL_height_12 : decode bm_TL_height 12 = .ok (.aaload, 1) := by decide +kernel
theorem dd_TL_height_13 : decode bm_TL_height 13 = .ok (.getfield 28, 3) := by decide +kernel
theorem dd_TL_height_16 : decode bm_TL_height 16 = .ok (.goto 4, 3) := by decide +kernel
theorem dd_TL_height_19 : decode bm_TL_height 19 = .ok (.iconst (-1), 1) := by decide +kernel
theorem dd_TL_height_20 : decode bm_TL_height 20 = .ok (.ireturn, 1) := by decide +kernel
theorem dd_TL_root_0 : decode bm_TL_root 0 = .ok (.iload_n 1, 1) := by decide +kernel
theorem dd_TL_root_1 : decode bm_TL_root 1 = .ok (.invokestatic 20, 3) := by decide +kernel
theorem dd_TL_root_4 : decode bm_TL_root 4 = .ok (.ifCond .eq 16, 3) := by decide +kernel
theorem dd_TL_root_7 : decode bm_TL_root 7 = .ok (.aload_n 0, 1) := by decide +kernel
theorem dd_TL_root_8 : decode bm_TL_root 8 = .ok (.getfield 11, 3) := by decide +kernel
theorem dd_TL_root_11 : decode bm_TL_root 11 = .ok (.iload_n 1, 1) := by decide +kernel
theorem dd_TL_root_12 : decode bm_TL_root 12 = .ok (.aaload, 1) := by decide +kernel
theorem dd_TL_root_13 : decode bm_TL_root 13 = .ok (.iload_n 2, 1) := by decide +kernel
theorem dd_TL_root_14 : decode bm_TL_root 14 = .ok (.invokevirtual 104, 3) := by decide +kernel
theorem dd_TL_root_17 : decode bm_TL_root 17 = .ok (.goto 4, 3) := by decide +kernel
theorem dd_TL_root_20 : decode bm_TL_root 20 = .ok (.iconst 0, 1) := by decide +kernel
theorem dd_TL_root_21 : decode bm_TL_root 21 = .ok (.ireturn, 1) := by decide +kernel
theorem dd_TL_knows_0 : decode bm_TL_knows 0 = .ok (.iload_n 1, 1) := by decide +kernel
theorem dd_TL_knows_1 : decode bm_TL_knows 1 = .ok (.invokestatic 20, 3) := by decide +kernel
theorem dd_TL_knows_4 : decode bm_TL_knows 4 = .ok (.ifCond .eq 23, 3) := by decide +kernel
theorem dd_TL_knows_7 : decode bm_TL_knows 7 = .ok (.aload_n 0, 1) := by decide +kernel
theorem dd_TL_knows_8 : decode bm_TL_knows 8 = .ok (.getfield 11, 3) := by decide +kernel
theorem dd_TL_knows_11 : decode bm_TL_knows 11 = .ok (.iload_n 1, 1) := by decide +kernel
theorem dd_TL_knows_12 : decode bm_TL_knows 12 = .ok (.aaload, 1) := by decide +kernel
theorem dd_TL_knows_13 : decode bm_TL_knows 13 = .ok (.getfield 37, 3) := by decide +kernel
theorem dd_TL_knows_16 : decode bm_TL_knows 16 = .ok (.iload_n 2, 1) := by decide +kernel
theorem dd_TL_knows_17 : decode bm_TL_knows 17 = .ok (.invokevirtual 107, 3) := by decide +kernel
theorem dd_TL_knows_20 : decode bm_TL_knows 20 = .ok (.ifCond .eq 7, 3) := by decide +kernel
theorem dd_TL_knows_23 : decode bm_TL_knows 23 = .ok (.iconst 1, 1) := by decide +kernel
theorem dd_TL_knows_24 : decode bm_TL_knows 24 = .ok (.goto 4, 3) := by decide +kernel
theorem dd_TL_knows_27 : decode bm_TL_knows 27 = .ok (.iconst 0, 1) := by decide +kernel
theorem dd_TL_knows_28 : decode bm_TL_knows 28 = .ok (.ireturn, 1) := by decide +kernel
theorem dd_TL_end_0 : decode bm_TL_end 0 = .ok (.iload_n 1, 1) := by decide +kernel
theorem dd_TL_end_1 : decode bm_TL_end 1 = .ok (.iload_n 2, 1) := by decide +kernel
theorem dd_TL_end_2 : decode bm_TL_end 2 = .ok (.invokestatic 47, 3) := by decide +kernel
theorem dd_TL_end_5 : decode bm_TL_end 5 = .ok (.ifCond .ne 5, 3) := by decide +kernel
theorem dd_TL_end_8 : decode bm_TL_end 8 = .ok (.iconst (-1), 1) := by decide +kernel
theorem dd_TL_end_9 : decode bm_TL_end 9 = .ok (.ireturn, 1) := by decide +kernel
theorem dd_TL_end_10 : decode bm_TL_end 10 = .ok (.aload_n 0, 1) := by decide +kernel
theorem dd_TL_end_11 : decode bm_TL_end 11 = .ok (.getfield 11, 3) := by decide +kernel
theorem dd_TL_end_14 : decode bm_TL_end 14 = .ok (.iload_n 1, 1) := by decide +kernel
theorem dd_TL_end_15 : decode bm_TL_end 15 = .ok (.aaload, 1) := by decide +kernel
theorem dd_TL_end_16 : decode bm_TL_end 16 = .ok (.astore 4, 2) := by decide +kernel
theorem dd_TL_end_18 : decode bm_TL_end 18 = .ok (.iload_n 3, 1) := by decide +kernel
theorem dd_TL_end_19 : decode bm_TL_end 19 = .ok (.tableswitch 76 0 4 #[33, 40, 47, 58, 65], 33) := by decide +kernel
theorem dd_TL_end_52 : decode bm_TL_end 52 = .ok (.aload 4, 2) := by decide +kernel
theorem dd_TL_end_54 : decode bm_TL_end 54 = .ok (.iload_n 2, 1) := by decide +kernel
theorem dd_TL_end_55 : decode bm_TL_end 55 = .ok (.invokevirtual 110, 3) := by decide +kernel
theorem dd_TL_end_58 : decode bm_TL_end 58 = .ok (.ireturn, 1) := by decide +kernel
theorem dd_TL_end_59 : decode bm_TL_end 59 = .ok (.aload 4, 2) := by decide +kernel
theorem dd_TL_end_61 : decode bm_TL_end 61 = .ok (.iload_n 2, 1) := by decide +kernel
theorem dd_TL_end_62 : decode bm_TL_end 62 = .ok (.invokevirtual 113, 3) := by decide +kernel
theorem dd_TL_end_65 : decode bm_TL_end 65 = .ok (.ireturn, 1) := by decide +kernel
theorem dd_TL_end_66 : decode bm_TL_end 66 = .ok (.aload 4, 2) := by decide +kernel
theorem dd_TL_end_68 : decode bm_TL_end 68 = .ok (.getfield 116, 3) := by decide +kernel
theorem dd_TL_end_71 : decode bm_TL_end 71 = .ok (.iload_n 2, 1) := by decide +kernel
theorem dd_TL_end_72 : decode bm_TL_end 72 = .ok (.aaload, 1) := by decide +kernel
theorem dd_TL_end_73 : decode bm_TL_end 73 = .ok (.getfield 120, 3) := by decide +kernel
theorem dd_TL_end_76 : decode bm_TL_end 76 = .ok (.ireturn, 1) := by decide +kernel
theorem dd_TL_end_77 : decode bm_TL_end 77 = .ok (.aload 4, 2) := by decide +kernel
theorem dd_TL_end_79 : decode bm_TL_end 79 = .ok (.iload_n 2, 1) := by decide +kernel
theorem dd_TL_end_80 : decode bm_TL_end 80 = .ok (.invokevirtual 125, 3) := by decide +kernel
theorem dd_TL_end_83 : decode bm_TL_end 83 = .ok (.ireturn, 1) := by decide +kernel
theorem dd_TL_end_84 : decode bm_TL_end 84 = .ok (.aload 4, 2) := by decide +kernel
theorem dd_TL_end_86 : decode bm_TL_end 86 = .ok (.getfield 116, 3) := by decide +kernel
theorem dd_TL_end_89 : decode bm_TL_end 89 = .ok (.iload_n 2, 1) := by decide +kernel
theorem dd_TL_end_90 : decode bm_TL_end 90 = .ok (.aaload, 1) := by decide +kernel
theorem dd_TL_end_91 : decode bm_TL_end 91 = .ok (.getfield 128, 3) := by decide +kernel
theorem dd_TL_end_94 : decode bm_TL_end 94 = .ok (.ireturn, 1) := by decide +kernel
theorem dd_TL_end_95 : decode bm_TL_end 95 = .ok (.iconst (-1), 1) := by decide +kernel
theorem dd_TL_end_96 : decode bm_TL_end 96 = .ok (.ireturn, 1) := by decide +kernel
theorem dd_TL_packet_0 : decode bm_TL_packet 0 = .ok (.aload_n 0, 1) := by decide +kernel
theorem dd_TL_packet_1 : decode bm_TL_packet 1 = .ok (.iload_n 1, 1) := by decide +kernel
theorem dd_TL_packet_2 : decode bm_TL_packet 2 = .ok (.iload_n 2, 1) := by decide +kernel
theorem dd_TL_packet_3 : decode bm_TL_packet 3 = .ok (.iload_n 3, 1) := by decide +kernel
theorem dd_TL_packet_4 : decode bm_TL_packet 4 = .ok (.invokevirtual 79, 3) := by decide +kernel
theorem dd_TL_packet_7 : decode bm_TL_packet 7 = .ok (.ifCond .eq 27, 3) := by decide +kernel
theorem dd_TL_packet_10 : decode bm_TL_packet 10 = .ok (.aload_n 0, 1) := by decide +kernel
theorem dd_TL_packet_11 : decode bm_TL_packet 11 = .ok (.getfield 11, 3) := by decide +kernel
theorem dd_TL_packet_14 : decode bm_TL_packet 14 = .ok (.iload_n 1, 1) := by decide +kernel
theorem dd_TL_packet_15 : decode bm_TL_packet 15 = .ok (.aaload, 1) := by decide +kernel
theorem dd_TL_packet_16 : decode bm_TL_packet 16 = .ok (.getfield 116, 3) := by decide +kernel
theorem dd_TL_packet_19 : decode bm_TL_packet 19 = .ok (.iload_n 2, 1) := by decide +kernel
theorem dd_TL_packet_20 : decode bm_TL_packet 20 = .ok (.aaload, 1) := by decide +kernel
theorem dd_TL_packet_21 : decode bm_TL_packet 21 = .ok (.getfield 131, 3) := by decide +kernel
theorem dd_TL_packet_24 : decode bm_TL_packet 24 = .ok (.iload_n 3, 1) := by decide +kernel
theorem dd_TL_packet_25 : decode bm_TL_packet 25 = .ok (.iconst 1, 1) := by decide +kernel
theorem dd_TL_packet_26 : decode bm_TL_packet 26 = .ok (.isub, 1) := by decide +kernel
theorem dd_TL_packet_27 : decode bm_TL_packet 27 = .ok (.aaload, 1) := by decide +kernel
theorem dd_TL_packet_28 : decode bm_TL_packet 28 = .ok (.getfield 135, 3) := by decide +kernel
theorem dd_TL_packet_31 : decode bm_TL_packet 31 = .ok (.goto 4, 3) := by decide +kernel
theorem dd_TL_packet_34 : decode bm_TL_packet 34 = .ok (.iconst (-1), 1) := by decide +kernel
theorem dd_TL_packet_35 : decode bm_TL_packet 35 = .ok (.ireturn, 1) := by decide +kernel
theorem dd_TL_limit_0 : decode bm_TL_limit 0 = .ok (.aload_n 0, 1) := by decide +kernel
theorem dd_TL_limit_1 : decode bm_TL_limit 1 = .ok (.iload_n 1, 1) := by decide +kernel
theorem dd_TL_limit_2 : decode bm_TL_limit 2 = .ok (.iload_n 2, 1) := by decide +kernel
theorem dd_TL_limit_3 : decode bm_TL_limit 3 = .ok (.iload_n 3, 1) := by decide +kernel
theorem dd_TL_limit_4 : decode bm_TL_limit 4 = .ok (.invokevirtual 79, 3) := by decide +kernel
theorem dd_TL_limit_7 : decode bm_TL_limit 7 = .ok (.ifCond .eq 27, 3) := by decide +kernel
theorem dd_TL_limit_10 : decode bm_TL_limit 10 = .ok (.aload_n 0, 1) := by decide +kernel
theorem dd_TL_limit_11 : decode bm_TL_limit 11 = .ok (.getfield 11, 3) := by decide +kernel
theorem dd_TL_limit_14 : decode bm_TL_limit 14 = .ok (.iload_n 1, 1) := by decide +kernel
theorem dd_TL_limit_15 : decode bm_TL_limit 15 = .ok (.aaload, 1) := by decide +kernel
theorem dd_TL_limit_16 : decode bm_TL_limit 16 = .ok (.getfield 116, 3) := by decide +kernel
theorem dd_TL_limit_19 : decode bm_TL_limit 19 = .ok (.iload_n 2, 1) := by decide +kernel
theorem dd_TL_limit_20 : decode bm_TL_limit 20 = .ok (.aaload, 1) := by decide +kernel
theorem dd_TL_limit_21 : decode bm_TL_limit 21 = .ok (.getfield 131, 3) := by decide +kernel
theorem dd_TL_limit_24 : decode bm_TL_limit 24 = .ok (.iload_n 3, 1) := by decide +kernel
theorem dd_TL_limit_25 : decode bm_TL_limit 25 = .ok (.iconst 1, 1) := by decide +kernel
theorem dd_TL_limit_26 : decode bm_TL_limit 26 = .ok (.isub, 1) := by decide +kernel
theorem dd_TL_limit_27 : decode bm_TL_limit 27 = .ok (.aaload, 1) := by decide +kernel
theorem dd_TL_limit_28 : decode bm_TL_limit 28 = .ok (.getfield 140, 3) := by decide +kernel
theorem dd_TL_limit_31 : decode bm_TL_limit 31 = .ok (.goto 4, 3) := by decide +kernel
theorem dd_TL_limit_34 : decode bm_TL_limit 34 = .ok (.iconst (-1), 1) := by decide +kernel
theorem dd_TL_limit_35 : decode bm_TL_limit 35 = .ok (.ireturn, 1) := by decide +kernel
theorem dd_TL_balance_0 : decode bm_TL_balance 0 = .ok (.iload_n 1, 1) := by decide +kernel
theorem dd_TL_balance_1 : decode bm_TL_balance 1 = .ok (.invokestatic 20, 3) := by decide +kernel
theorem dd_TL_balance_4 : decode bm_TL_balance 4 = .ok (.ifCond .eq 28, 3) := by decide +kernel
theorem dd_TL_balance_7 : decode bm_TL_balance 7 = .ok (.iload_n 2, 1) := by decide +kernel
theorem dd_TL_balance_8 : decode bm_TL_balance 8 = .ok (.ifCond .lt 24, 3) := by decide +kernel
theorem dd_TL_balance_11 : decode bm_TL_balance 11 = .ok (.iload_n 2, 1) := by decide +kernel
theorem dd_TL_balance_12 : decode bm_TL_balance 12 = .ok (.iconst 4, 1) := by decide +kernel
theorem dd_TL_balance_13 : decode bm_TL_balance 13 = .ok (.if_icmp .ge 19, 3) := by decide +kernel
theorem dd_TL_balance_16 : decode bm_TL_balance 16 = .ok (.aload_n 0, 1) := by decide +kernel
theorem dd_TL_balance_17 : decode bm_TL_balance 17 = .ok (.getfield 11, 3) := by decide +kernel
theorem dd_TL_balance_20 : decode bm_TL_balance 20 = .ok (.iload_n 1, 1) := by decide +kernel
theorem dd_TL_balance_21 : decode bm_TL_balance 21 = .ok (.aaload, 1) := by decide +kernel
theorem dd_TL_balance_22 : decode bm_TL_balance 22 = .ok (.getfield 66, 3) := by decide +kernel
theorem dd_TL_balance_25 : decode bm_TL_balance 25 = .ok (.iload_n 3, 1) := by decide +kernel
theorem dd_TL_balance_26 : decode bm_TL_balance 26 = .ok (.invokevirtual 70, 3) := by decide +kernel
theorem dd_TL_balance_29 : decode bm_TL_balance 29 = .ok (.ifCond .ne 5, 3) := by decide +kernel
theorem dd_TL_balance_32 : decode bm_TL_balance 32 = .ok (.iconst 0, 1) := by decide +kernel
theorem dd_TL_balance_33 : decode bm_TL_balance 33 = .ok (.ireturn, 1) := by decide +kernel
theorem dd_TL_balance_34 : decode bm_TL_balance 34 = .ok (.aload_n 0, 1) := by decide +kernel
theorem dd_TL_balance_35 : decode bm_TL_balance 35 = .ok (.getfield 11, 3) := by decide +kernel
theorem dd_TL_balance_38 : decode bm_TL_balance 38 = .ok (.iload_n 1, 1) := by decide +kernel
theorem dd_TL_balance_39 : decode bm_TL_balance 39 = .ok (.aaload, 1) := by decide +kernel
theorem dd_TL_balance_40 : decode bm_TL_balance 40 = .ok (.getfield 66, 3) := by decide +kernel
theorem dd_TL_balance_43 : decode bm_TL_balance 43 = .ok (.getfield 143, 3) := by decide +kernel
theorem dd_TL_balance_46 : decode bm_TL_balance 46 = .ok (.iload_n 2, 1) := by decide +kernel
theorem dd_TL_balance_47 : decode bm_TL_balance 47 = .ok (.aaload, 1) := by decide +kernel
theorem dd_TL_balance_48 : decode bm_TL_balance 48 = .ok (.iload_n 3, 1) := by decide +kernel
theorem dd_TL_balance_49 : decode bm_TL_balance 49 = .ok (.iaload, 1) := by decide +kernel
theorem dd_TL_balance_50 : decode bm_TL_balance 50 = .ok (.ireturn, 1) := by decide +kernel
theorem dd_TL_escrow_0 : decode bm_TL_escrow 0 = .ok (.iload_n 1, 1) := by decide +kernel
theorem dd_TL_escrow_1 : decode bm_TL_escrow 1 = .ok (.iload_n 2, 1) := by decide +kernel
theorem dd_TL_escrow_2 : decode bm_TL_escrow 2 = .ok (.invokestatic 47, 3) := by decide +kernel
theorem dd_TL_escrow_5 : decode bm_TL_escrow 5 = .ok (.ifCond .eq 19, 3) := by decide +kernel
theorem dd_TL_escrow_8 : decode bm_TL_escrow 8 = .ok (.aload_n 0, 1) := by decide +kernel
theorem dd_TL_escrow_9 : decode bm_TL_escrow 9 = .ok (.getfield 11, 3) := by decide +kernel
theorem dd_TL_escrow_12 : decode bm_TL_escrow 12 = .ok (.iload_n 1, 1) := by decide +kernel
theorem dd_TL_escrow_13 : decode bm_TL_escrow 13 = .ok (.aaload, 1) := by decide +kernel
theorem dd_TL_escrow_14 : decode bm_TL_escrow 14 = .ok (.getfield 66, 3) := by decide +kernel
theorem dd_TL_escrow_17 : decode bm_TL_escrow 17 = .ok (.iload_n 3, 1) := by decide +kernel
theorem dd_TL_escrow_18 : decode bm_TL_escrow 18 = .ok (.invokevirtual 70, 3) := by decide +kernel
theorem dd_TL_escrow_21 : decode bm_TL_escrow 21 = .ok (.ifCond .ne 5, 3) := by decide +kernel
theorem dd_TL_escrow_24 : decode bm_TL_escrow 24 = .ok (.iconst 0, 1) := by decide +kernel
theorem dd_TL_escrow_25 : decode bm_TL_escrow 25 = .ok (.ireturn, 1) := by decide +kernel
theorem dd_TL_escrow_26 : decode bm_TL_escrow 26 = .ok (.aload_n 0, 1) := by decide +kernel
theorem dd_TL_escrow_27 : decode bm_TL_escrow 27 = .ok (.getfield 11, 3) := by decide +kernel
theorem dd_TL_escrow_30 : decode bm_TL_escrow 30 = .ok (.iload_n 1, 1) := by decide +kernel
theorem dd_TL_escrow_31 : decode bm_TL_escrow 31 = .ok (.aaload, 1) := by decide +kernel
theorem dd_TL_escrow_32 : decode bm_TL_escrow 32 = .ok (.getfield 66, 3) := by decide +kernel
theorem dd_TL_escrow_35 : decode bm_TL_escrow 35 = .ok (.getfield 147, 3) := by decide +kernel
theorem dd_TL_escrow_38 : decode bm_TL_escrow 38 = .ok (.iload_n 2, 1) := by decide +kernel
theorem dd_TL_escrow_39 : decode bm_TL_escrow 39 = .ok (.aaload, 1) := by decide +kernel
theorem dd_TL_escrow_40 : decode bm_TL_escrow 40 = .ok (.iload_n 3, 1) := by decide +kernel
theorem dd_TL_escrow_41 : decode bm_TL_escrow 41 = .ok (.iaload, 1) := by decide +kernel
theorem dd_TL_escrow_42 : decode bm_TL_escrow 42 = .ok (.ireturn, 1) := by decide +kernel
theorem dd_TL_voucher_0 : decode bm_TL_voucher 0 = .ok (.iload_n 1, 1) := by decide +kernel
theorem dd_TL_voucher_1 : decode bm_TL_voucher 1 = .ok (.invokestatic 20, 3) := by decide +kernel
theorem dd_TL_voucher_4 : decode bm_TL_voucher 4 = .ok (.ifCond .eq 24, 3) := by decide +kernel
theorem dd_TL_voucher_7 : decode bm_TL_voucher 7 = .ok (.iload_n 2, 1) := by decide +kernel
theorem dd_TL_voucher_8 : decode bm_TL_voucher 8 = .ok (.iconst 1, 1) := by decide +kernel
theorem dd_TL_voucher_9 : decode bm_TL_voucher 9 = .ok (.if_icmp .lt 19, 3) := by decide +kernel
theorem dd_TL_voucher_12 : decode bm_TL_voucher 12 = .ok (.aload_n 0, 1) := by decide +kernel
theorem dd_TL_voucher_13 : decode bm_TL_voucher 13 = .ok (.getfield 11, 3) := by decide +kernel
theorem dd_TL_voucher_16 : decode bm_TL_voucher 16 = .ok (.iload_n 1, 1) := by decide +kernel
theorem dd_TL_voucher_17 : decode bm_TL_voucher 17 = .ok (.aaload, 1) := by decide +kernel
theorem dd_TL_voucher_18 : decode bm_TL_voucher 18 = .ok (.getfield 66, 3) := by decide +kernel
theorem dd_TL_voucher_21 : decode bm_TL_voucher 21 = .ok (.iload_n 2, 1) := by decide +kernel
theorem dd_TL_voucher_22 : decode bm_TL_voucher 22 = .ok (.invokevirtual 70, 3) := by decide +kernel
theorem dd_TL_voucher_25 : decode bm_TL_voucher 25 = .ok (.ifCond .ne 5, 3) := by decide +kernel
theorem dd_TL_voucher_28 : decode bm_TL_voucher 28 = .ok (.iconst (-1), 1) := by decide +kernel
theorem dd_TL_voucher_29 : decode bm_TL_voucher 29 = .ok (.ireturn, 1) := by decide +kernel
theorem dd_TL_voucher_30 : decode bm_TL_voucher 30 = .ok (.iconst 4, 1) := by decide +kernel
theorem dd_TL_voucher_31 : decode bm_TL_voucher 31 = .ok (.aload_n 0, 1) := by decide +kernel
theorem dd_TL_voucher_32 : decode bm_TL_voucher 32 = .ok (.getfield 11, 3) := by decide +kernel
theorem dd_TL_voucher_35 : decode bm_TL_voucher 35 = .ok (.iload_n 1, 1) := by decide +kernel
theorem dd_TL_voucher_36 : decode bm_TL_voucher 36 = .ok (.aaload, 1) := by decide +kernel
theorem dd_TL_voucher_37 : decode bm_TL_voucher 37 = .ok (.getfield 66, 3) := by decide +kernel
theorem dd_TL_voucher_40 : decode bm_TL_voucher 40 = .ok (.getfield 150, 3) := by decide +kernel
theorem dd_TL_voucher_43 : decode bm_TL_voucher 43 = .ok (.iload_n 2, 1) := by decide +kernel
theorem dd_TL_voucher_44 : decode bm_TL_voucher 44 = .ok (.iaload, 1) := by decide +kernel
theorem dd_TL_voucher_45 : decode bm_TL_voucher 45 = .ok (.imul, 1) := by decide +kernel
theorem dd_TL_voucher_46 : decode bm_TL_voucher 46 = .ok (.aload_n 0, 1) := by decide +kernel
theorem dd_TL_voucher_47 : decode bm_TL_voucher 47 = .ok (.getfield 11, 3) := by decide +kernel
theorem dd_TL_voucher_50 : decode bm_TL_voucher 50 = .ok (.iload_n 1, 1) := by decide +kernel
theorem dd_TL_voucher_51 : decode bm_TL_voucher 51 = .ok (.aaload, 1) := by decide +kernel
theorem dd_TL_voucher_52 : decode bm_TL_voucher 52 = .ok (.getfield 66, 3) := by decide +kernel
theorem dd_TL_voucher_55 : decode bm_TL_voucher 55 = .ok (.getfield 154, 3) := by decide +kernel
theorem dd_TL_voucher_58 : decode bm_TL_voucher 58 = .ok (.iload_n 2, 1) := by decide +kernel
theorem dd_TL_voucher_59 : decode bm_TL_voucher 59 = .ok (.iaload, 1) := by decide +kernel
theorem dd_TL_voucher_60 : decode bm_TL_voucher 60 = .ok (.iadd, 1) := by decide +kernel
theorem dd_TL_voucher_61 : decode bm_TL_voucher 61 = .ok (.ireturn, 1) := by decide +kernel
theorem dd_TL_isLedger_0 : decode bm_TL_isLedger 0 = .ok (.iload_n 0, 1) := by decide +kernel
theorem dd_TL_isLedger_1 : decode bm_TL_isLedger 1 = .ok (.ifCond .lt 12, 3) := by decide +kernel
theorem dd_TL_isLedger_4 : decode bm_TL_isLedger 4 = .ok (.iload_n 0, 1) := by decide +kernel
theorem dd_TL_isLedger_5 : decode bm_TL_isLedger 5 = .ok (.iconst 2, 1) := by decide +kernel
theorem dd_TL_isLedger_6 : decode bm_TL_isLedger 6 = .ok (.if_icmp .ge 7, 3) := by decide +kernel
theorem dd_TL_isLedger_9 : decode bm_TL_isLedger 9 = .ok (.iconst 1, 1) := by decide +kernel
theorem dd_TL_isLedger_10 : decode bm_TL_isLedger 10 = .ok (.goto 4, 3) := by decide +kernel
theorem dd_TL_isLedger_13 : decode bm_TL_isLedger 13 = .ok (.iconst 0, 1) := by decide +kernel
theorem dd_TL_isLedger_14 : decode bm_TL_isLedger 14 = .ok (.ireturn, 1) := by decide +kernel
theorem dd_TL_isEnd_0 : decode bm_TL_isEnd 0 = .ok (.iload_n 0, 1) := by decide +kernel
theorem dd_TL_isEnd_1 : decode bm_TL_isEnd 1 = .ok (.invokestatic 20, 3) := by decide +kernel
theorem dd_TL_isEnd_4 : decode bm_TL_isEnd 4 = .ok (.ifCond .eq 16, 3) := by decide +kernel
theorem dd_TL_isEnd_7 : decode bm_TL_isEnd 7 = .ok (.iload_n 1, 1) := by decide +kernel
theorem dd_TL_isEnd_8 : decode bm_TL_isEnd 8 = .ok (.ifCond .lt 12, 3) := by decide +kernel
theorem dd_TL_isEnd_11 : decode bm_TL_isEnd 11 = .ok (.iload_n 1, 1) := by decide +kernel
theorem dd_TL_isEnd_12 : decode bm_TL_isEnd 12 = .ok (.iconst 3, 1) := by decide +kernel
theorem dd_TL_isEnd_13 : decode bm_TL_isEnd 13 = .ok (.if_icmp .ge 7, 3) := by decide +kernel
theorem dd_TL_isEnd_16 : decode bm_TL_isEnd 16 = .ok (.iconst 1, 1) := by decide +kernel
theorem dd_TL_isEnd_17 : decode bm_TL_isEnd 17 = .ok (.goto 4, 3) := by decide +kernel
theorem dd_TL_isEnd_20 : decode bm_TL_isEnd 20 = .ok (.iconst 0, 1) := by decide +kernel
theorem dd_TL_isEnd_21 : decode bm_TL_isEnd 21 = .ok (.ireturn, 1) := by decide +kernel
theorem dd_TL_isPacket_0 : decode bm_TL_isPacket 0 = .ok (.iload_n 1, 1) := by decide +kernel
theorem dd_TL_isPacket_1 : decode bm_TL_isPacket 1 = .ok (.iload_n 2, 1) := by decide +kernel
theorem dd_TL_isPacket_2 : decode bm_TL_isPacket 2 = .ok (.invokestatic 47, 3) := by decide +kernel
theorem dd_TL_isPacket_5 : decode bm_TL_isPacket 5 = .ok (.ifCond .eq 30, 3) := by decide +kernel
theorem dd_TL_isPacket_8 : decode bm_TL_isPacket 8 = .ok (.iload_n 3, 1) := by decide +kernel
theorem dd_TL_isPacket_9 : decode bm_TL_isPacket 9 = .ok (.iconst 1, 1) := by decide +kernel
theorem dd_TL_isPacket_10 : decode bm_TL_isPacket 10 = .ok (.if_icmp .lt 25, 3) := by decide +kernel
theorem dd_TL_isPacket_13 : decode bm_TL_isPacket 13 = .ok (.iload_n 3, 1) := by decide +kernel
theorem dd_TL_isPacket_14 : decode bm_TL_isPacket 14 = .ok (.aload_n 0, 1) := by decide +kernel
theorem dd_TL_isPacket_15 : decode bm_TL_isPacket 15 = .ok (.getfield 11, 3) := by decide +kernel
theorem dd_TL_isPacket_18 : decode bm_TL_isPacket 18 = .ok (.iload_n 1, 1) := by decide +kernel
theorem dd_TL_isPacket_19 : decode bm_TL_isPacket 19 = .ok (.aaload, 1) := by decide +kernel
theorem dd_TL_isPacket_20 : decode bm_TL_isPacket 20 = .ok (.getfield 116, 3) := by decide +kernel
theorem dd_TL_isPacket_23 : decode bm_TL_isPacket 23 = .ok (.iload_n 2, 1) := by decide +kernel
theorem dd_TL_isPacket_24 : decode bm_TL_isPacket 24 = .ok (.aaload, 1) := by decide +kernel
theorem dd_TL_isPacket_25 : decode bm_TL_isPacket 25 = .ok (.getfield 120, 3) := by decide +kernel
theorem dd_TL_isPacket_28 : decode bm_TL_isPacket 28 = .ok (.if_icmp .gt 7, 3) := by decide +kernel
theorem dd_TL_isPacket_31 : decode bm_TL_isPacket 31 = .ok (.iconst 1, 1) := by decide +kernel
theorem dd_TL_isPacket_32 : decode bm_TL_isPacket 32 = .ok (.goto 4, 3) := by decide +kernel
theorem dd_TL_isPacket_35 : decode bm_TL_isPacket 35 = .ok (.iconst 0, 1) := by decide +kernel
theorem dd_TL_isPacket_36 : decode bm_TL_isPacket 36 = .ok (.ireturn, 1) := by decide +kernel
theorem dd_TL_relayPackets_0 : decode bm_TL_relayPackets 0 = .ok (.iconst 0, 1) := by decide +kernel
theorem dd_TL_relayPackets_1 : decode bm_TL_relayPackets 1 = .ok (.istore_n 2, 1) := by decide +kernel
theorem dd_TL_relayPackets_2 : decode bm_TL_relayPackets 2 = .ok (.iconst 0, 1) := by decide +kernel
theorem dd_TL_relayPackets_3 : decode bm_TL_relayPackets 3 = .ok (.istore_n 3, 1) := by decide +kernel
theorem dd_TL_relayPackets_4 : decode bm_TL_relayPackets 4 = .ok (.iload_n 3, 1) := by decide +kernel
theorem dd_TL_relayPackets_5 : decode bm_TL_relayPackets 5 = .ok (.iconst 3, 1) := by decide +kernel
theorem dd_TL_relayPackets_6 : decode bm_TL_relayPackets 6 = .ok (.if_icmp .ge 55, 3) := by decide +kernel
theorem dd_TL_relayPackets_9 : decode bm_TL_relayPackets 9 = .ok (.aload_n 1, 1) := by decide +kernel
theorem dd_TL_relayPackets_10 : decode bm_TL_relayPackets 10 = .ok (.getfield 116, 3) := by decide +kernel
theorem dd_TL_relayPackets_13 : decode bm_TL_relayPackets 13 = .ok (.iload_n 3, 1) := by decide +kernel
theorem dd_TL_relayPackets_14 : decode bm_TL_relayPackets 14 = .ok (.aaload, 1) := by decide +kernel
theorem dd_TL_relayPackets_15 : decode bm_TL_relayPackets 15 = .ok (.getfield 120, 3) := by decide +kernel
theorem dd_TL_relayPackets_18 : decode bm_TL_relayPackets 18 = .ok (.istore 4, 2) := by decide +kernel
theorem dd_TL_relayPackets_20 : decode bm_TL_relayPackets 20 = .ok (.iconst 1, 1) := by decide +kernel
theorem dd_TL_relayPackets_21 : decode bm_TL_relayPackets 21 = .ok (.istore 5, 2) := by decide +kernel
theorem dd_TL_relayPackets_23 : decode bm_TL_relayPackets 23 = .ok (.iload 5, 2) := by decide +kernel
theorem dd_TL_relayPackets_25 : decode bm_TL_relayPackets 25 = .ok (.iload 4, 2) := by decide +kernel
theorem dd_TL_relayPackets_27 : decode bm_TL_relayPackets 27 = .ok (.if_icmp .gt 28, 3) := by decide +kernel
theorem dd_TL_relayPackets_30 : decode bm_TL_relayPackets 30 = .ok (.aload_n 0, 1) := by decide +kernel
theorem dd_TL_relayPackets_31 : decode bm_TL_relayPackets 31 = .ok (.aload_n 1, 1) := by decide +kernel
theorem dd_TL_relayPackets_32 : decode bm_TL_relayPackets 32 = .ok (.iload_n 3, 1) := by decide +kernel
theorem dd_TL_relayPackets_33 : decode bm_TL_relayPackets 33 = .ok (.iload 5, 2) := by decide +kernel
theorem dd_TL_relayPackets_35 : decode bm_TL_relayPackets 35 = .ok (.aload_n 1, 1) := by decide +kernel
theorem dd_TL_relayPackets_36 : decode bm_TL_relayPackets 36 = .ok (.getfield 28, 3) := by decide +kernel
theorem dd_TL_relayPackets_39 : decode bm_TL_relayPackets 39 = .ok (.iconst 0, 1) := by decide +kernel
theorem dd_TL_relayPackets_40 : decode bm_TL_relayPackets 40 = .ok (.invokevirtual 83, 3) := by decide +kernel
theorem dd_TL_relayPackets_43 : decode bm_TL_relayPackets 43 = .ok (.ifCond .le 6, 3) := by decide +kernel
theorem dd_TL_relayPackets_46 : decode bm_TL_relayPackets 46 = .ok (.iinc 2 1, 3) := by decide +kernel
theorem dd_TL_relayPackets_49 : decode bm_TL_relayPackets 49 = .ok (.iinc 5 1, 3) := by decide +kernel
theorem dd_TL_relayPackets_52 : decode bm_TL_relayPackets 52 = .ok (.goto (-29), 3) := by decide +kernel
theorem dd_TL_relayPackets_55 : decode bm_TL_relayPackets 55 = .ok (.iinc 3 1, 3) := by decide +kernel
theorem dd_TL_relayPackets_58 : decode bm_TL_relayPackets 58 = .ok (.goto (-54), 3) := by decide +kernel
theorem dd_TL_relayPackets_61 : decode bm_TL_relayPackets 61 = .ok (.iload_n 2, 1) := by decide +kernel
theorem dd_TL_relayPackets_62 : decode bm_TL_relayPackets 62 = .ok (.ireturn, 1) := by decide +kernel
theorem dd_TL_relayAnswers_0 : decode bm_TL_relayAnswers 0 = .ok (.iconst 0, 1) := by decide +kernel
theorem dd_TL_relayAnswers_1 : decode bm_TL_relayAnswers 1 = .ok (.istore_n 2, 1) := by decide +kernel
theorem dd_TL_relayAnswers_2 : decode bm_TL_relayAnswers 2 = .ok (.iconst 0, 1) := by decide +kernel
theorem dd_TL_relayAnswers_3 : decode bm_TL_relayAnswers 3 = .ok (.istore_n 3, 1) := by decide +kernel
theorem dd_TL_relayAnswers_4 : decode bm_TL_relayAnswers 4 = .ok (.iload_n 3, 1) := by decide +kernel
theorem dd_TL_relayAnswers_5 : decode bm_TL_relayAnswers 5 = .ok (.iconst 3, 1) := by decide +kernel
theorem dd_TL_relayAnswers_6 : decode bm_TL_relayAnswers 6 = .ok (.if_icmp .ge 54, 3) := by decide +kernel
theorem dd_TL_relayAnswers_9 : decode bm_TL_relayAnswers 9 = .ok (.aload_n 0, 1) := by decide +kernel
theorem dd_TL_relayAnswers_10 : decode bm_TL_relayAnswers 10 = .ok (.getfield 116, 3) := by decide +kernel
theorem dd_TL_relayAnswers_13 : decode bm_TL_relayAnswers 13 = .ok (.iload_n 3, 1) := by decide +kernel
theorem dd_TL_relayAnswers_14 : decode bm_TL_relayAnswers 14 = .ok (.aaload, 1) := by decide +kernel
theorem dd_TL_relayAnswers_15 : decode bm_TL_relayAnswers 15 = .ok (.getfield 120, 3) := by decide +kernel
theorem dd_TL_relayAnswers_18 : decode bm_TL_relayAnswers 18 = .ok (.istore 4, 2) := by decide +kernel
theorem dd_TL_relayAnswers_20 : decode bm_TL_relayAnswers 20 = .ok (.iconst 1, 1) := by decide +kernel
theorem dd_TL_relayAnswers_21 : decode bm_TL_relayAnswers 21 = .ok (.istore 5, 2) := by decide +kernel
theorem dd_TL_relayAnswers_23 : decode bm_TL_relayAnswers 23 = .ok (.iload 5, 2) := by decide +kernel
theorem dd_TL_relayAnswers_25 : decode bm_TL_relayAnswers 25 = .ok (.iload 4, 2) := by decide +kernel
theorem dd_TL_relayAnswers_27 : decode bm_TL_relayAnswers 27 = .ok (.if_icmp .gt 27, 3) := by decide +kernel
theorem dd_TL_relayAnswers_30 : decode bm_TL_relayAnswers 30 = .ok (.aload_n 0, 1) := by decide +kernel
theorem dd_TL_relayAnswers_31 : decode bm_TL_relayAnswers 31 = .ok (.aload_n 1, 1) := by decide +kernel
theorem dd_TL_relayAnswers_32 : decode bm_TL_relayAnswers 32 = .ok (.iload_n 3, 1) := by decide +kernel
theorem dd_TL_relayAnswers_33 : decode bm_TL_relayAnswers 33 = .ok (.iload 5, 2) := by decide +kernel
theorem dd_TL_relayAnswers_35 : decode bm_TL_relayAnswers 35 = .ok (.aload_n 1, 1) := by decide +kernel
theorem dd_TL_relayAnswers_36 : decode bm_TL_relayAnswers 36 = .ok (.getfield 28, 3) := by decide +kernel
theorem dd_TL_relayAnswers_39 : decode bm_TL_relayAnswers 39 = .ok (.invokevirtual 87, 3) := by decide +kernel
theorem dd_TL_relayAnswers_42 : decode bm_TL_relayAnswers 42 = .ok (.ifCond .le 6, 3) := by decide +kernel
theorem dd_TL_relayAnswers_45 : decode bm_TL_relayAnswers 45 = .ok (.iinc 2 1, 3) := by decide +kernel
theorem dd_TL_relayAnswers_48 : decode bm_TL_relayAnswers 48 = .ok (.iinc 5 1, 3) := by decide +kernel
theorem dd_TL_relayAnswers_51 : decode bm_TL_relayAnswers 51 = .ok (.goto (-28), 3) := by decide +kernel
theorem dd_TL_relayAnswers_54 : decode bm_TL_relayAnswers 54 = .ok (.iinc 3 1, 3) := by decide +kernel
theorem dd_TL_relayAnswers_57 : decode bm_TL_relayAnswers 57 = .ok (.goto (-53), 3) := by decide +kernel
theorem dd_TL_relayAnswers_60 : decode bm_TL_relayAnswers 60 = .ok (.iload_n 2, 1) := by decide +kernel
theorem dd_TL_relayAnswers_61 : decode bm_TL_relayAnswers 61 = .ok (.ireturn, 1) := by decide +kernel
theorem dd_TL_relayTimeouts_0 : decode bm_TL_relayTimeouts 0 = .ok (.iconst 0, 1) := by decide +kernel
theorem dd_TL_relayTimeouts_1 : decode bm_TL_relayTimeouts 1 = .ok (.istore_n 2, 1) := by decide +kernel
theorem dd_TL_relayTimeouts_2 : decode bm_TL_relayTimeouts 2 = .ok (.iconst 0, 1) := by decide +kernel
theorem dd_TL_relayTimeouts_3 : decode bm_TL_relayTimeouts 3 = .ok (.istore_n 3, 1) := by decide +kernel
theorem dd_TL_relayTimeouts_4 : decode bm_TL_relayTimeouts 4 = .ok (.iload_n 3, 1) := by decide +kernel
theorem dd_TL_relayTimeouts_5 : decode bm_TL_relayTimeouts 5 = .ok (.iconst 3, 1) := by decide +kernel
theorem dd_TL_relayTimeouts_6 : decode bm_TL_relayTimeouts 6 = .ok (.if_icmp .ge 55, 3) := by decide +kernel
theorem dd_TL_relayTimeouts_9 : decode bm_TL_relayTimeouts 9 = .ok (.aload_n 0, 1) := by decide +kernel
theorem dd_TL_relayTimeouts_10 : decode bm_TL_relayTimeouts 10 = .ok (.getfield 116, 3) := by decide +kernel
theorem dd_TL_relayTimeouts_13 : decode bm_TL_relayTimeouts 13 = .ok (.iload_n 3, 1) := by decide +kernel
theorem dd_TL_relayTimeouts_14 : decode bm_TL_relayTimeouts 14 = .ok (.aaload, 1) := by decide +kernel
theorem dd_TL_relayTimeouts_15 : decode bm_TL_relayTimeouts 15 = .ok (.getfield 120, 3) := by decide +kernel
theorem dd_TL_relayTimeouts_18 : decode bm_TL_relayTimeouts 18 = .ok (.istore 4, 2) := by decide +kernel
theorem dd_TL_relayTimeouts_20 : decode bm_TL_relayTimeouts 20 = .ok (.iconst 1, 1) := by decide +kernel
theorem dd_TL_relayTimeouts_21 : decode bm_TL_relayTimeouts 21 = .ok (.istore 5, 2) := by decide +kernel
theorem dd_TL_relayTimeouts_23 : decode bm_TL_relayTimeouts 23 = .ok (.iload 5, 2) := by decide +kernel
theorem dd_TL_relayTimeouts_25 : decode bm_TL_relayTimeouts 25 = .ok (.iload 4, 2) := by decide +kernel
theorem dd_TL_relayTimeouts_27 : decode bm_TL_relayTimeouts 27 = .ok (.if_icmp .gt 28, 3) := by decide +kernel
theorem dd_TL_relayTimeouts_30 : decode bm_TL_relayTimeouts 30 = .ok (.aload_n 0, 1) := by decide +kernel
theorem dd_TL_relayTimeouts_31 : decode bm_TL_relayTimeouts 31 = .ok (.aload_n 1, 1) := by decide +kernel
theorem dd_TL_relayTimeouts_32 : decode bm_TL_relayTimeouts 32 = .ok (.iload_n 3, 1) := by decide +kernel
theorem dd_TL_relayTimeouts_33 : decode bm_TL_relayTimeouts 33 = .ok (.iload 5, 2) := by decide +kernel
theorem dd_TL_relayTimeouts_35 : decode bm_TL_relayTimeouts 35 = .ok (.aload_n 1, 1) := by decide +kernel
theorem dd_TL_relayTimeouts_36 : decode bm_TL_relayTimeouts 36 = .ok (.getfield 28, 3) := by decide +kernel
theorem dd_TL_relayTimeouts_39 : decode bm_TL_relayTimeouts 39 = .ok (.iconst 0, 1) := by decide +kernel
theorem dd_TL_relayTimeouts_40 : decode bm_TL_relayTimeouts 40 = .ok (.invokevirtual 91, 3) := by decide +kernel
theorem dd_TL_relayTimeouts_43 : decode bm_TL_relayTimeouts 43 = .ok (.ifCond .ne 6, 3) := by decide +kernel
theorem dd_TL_relayTimeouts_46 : decode bm_TL_relayTimeouts 46 = .ok (.iinc 2 1, 3) := by decide +kernel
theorem dd_TL_relayTimeouts_49 : decode bm_TL_relayTimeouts 49 = .ok (.iinc 5 1, 3) := by decide +kernel
theorem dd_TL_relayTimeouts_52 : decode bm_TL_relayTimeouts 52 = .ok (.goto (-29), 3) := by decide +kernel
theorem dd_TL_relayTimeouts_55 : decode bm_TL_relayTimeouts 55 = .ok (.iinc 3 1, 3) := by decide +kernel
theorem dd_TL_relayTimeouts_58 : decode bm_TL_relayTimeouts 58 = .ok (.goto (-54), 3) := by decide +kernel
theorem dd_TL_relayTimeouts_61 : decode bm_TL_relayTimeouts 61 = .ok (.iload_n 2, 1) := by decide +kernel
theorem dd_TL_relayTimeouts_62 : decode bm_TL_relayTimeouts 62 = .ok (.ireturn, 1) := by decide +kernel
end
section
theorem dd_TL_mix_0 : decode bm_TL_mix 0 = .ok (.iload_n 0, 1) := by decide +kernel
theorem dd_TL_mix_1 : decode bm_TL_mix 1 = .ok (.iload_n 1, 1) := by decide +kernel
theorem dd_TL_mix_2 : decode bm_TL_mix 2 = .ok (.ixor, 1) := by decide +kernel
theorem dd_TL_mix_3 : decode bm_TL_mix 3 = .ok (.ldc 157, 2) := by decide +kernel
theorem dd_TL_mix_5 : decode bm_TL_mix 5 = .ok (.imul, 1) := by decide +kernel
theorem dd_TL_mix_6 : decode bm_TL_mix 6 = .ok (.istore_n 2, 1) := by decide +kernel
theorem dd_TL_mix_7 : decode bm_TL_mix 7 = .ok (.iload_n 2, 1) := by decide +kernel
theorem dd_TL_mix_8 : decode bm_TL_mix 8 = .ok (.iload_n 2, 1) := by decide +kernel
theorem dd_TL_mix_9 : decode bm_TL_mix 9 = .ok (.bipush 15, 2) := by decide +kernel
theorem dd_TL_mix_11 : decode bm_TL_mix 11 = .ok (.iushr, 1) := by decide +kernel
theorem dd_TL_mix_12 : decode bm_TL_mix 12 = .ok (.ixor, 1) := by decide +kernel
theorem dd_TL_mix_13 : decode bm_TL_mix 13 = .ok (.ireturn, 1) := by decide +kernel
theorem dd_Ledger_ctor_0 : decode bm_Ledger_ctor 0 = .ok (.aload_n 0, 1) := by decide +kernel
theorem dd_Ledger_ctor_1 : decode bm_Ledger_ctor 1 = .ok (.invokespecial 3, 3) := by decide +kernel
theorem dd_Ledger_ctor_4 : decode bm_Ledger_ctor 4 = .ok (.aload_n 0, 1) := by decide +kernel
theorem dd_Ledger_ctor_5 : decode bm_Ledger_ctor 5 = .ok (.new 9, 3) := by decide +kernel
theorem dd_Ledger_ctor_8 : decode bm_Ledger_ctor 8 = .ok (.dup, 1) := by decide +kernel
theorem dd_Ledger_ctor_9 : decode bm_Ledger_ctor 9 = .ok (.invokespecial 11, 3) := by decide +kernel
theorem dd_Ledger_ctor_12 : decode bm_Ledger_ctor 12 = .ok (.putfield 12, 3) := by decide +kernel
theorem dd_Ledger_ctor_15 : decode bm_Ledger_ctor 15 = .ok (.aload_n 0, 1) := by decide +kernel
theorem dd_Ledger_ctor_16 : decode bm_Ledger_ctor 16 = .ok (.bipush 8, 2) := by decide +kernel
theorem dd_Ledger_ctor_18 : decode bm_Ledger_ctor 18 = .ok (.anewarray 9, 3) := by decide +kernel
theorem dd_Ledger_ctor_21 : decode bm_Ledger_ctor 21 = .ok (.putfield 18, 3) := by decide +kernel
theorem dd_Ledger_ctor_24 : decode bm_Ledger_ctor 24 = .ok (.aload_n 0, 1) := by decide +kernel
theorem dd_Ledger_ctor_25 : decode bm_Ledger_ctor 25 = .ok (.bipush 114, 2) := by decide +kernel
theorem dd_Ledger_ctor_27 : decode bm_Ledger_ctor 27 = .ok (.newarray .int, 2) := by decide +kernel
theorem dd_Ledger_ctor_29 : decode bm_Ledger_ctor 29 = .ok (.putfield 22, 3) := by decide +kernel
theorem dd_Ledger_ctor_32 : decode bm_Ledger_ctor 32 = .ok (.aload_n 0, 1) := by decide +kernel
theorem dd_Ledger_ctor_33 : decode bm_Ledger_ctor 33 = .ok (.new 26, 3) := by decide +kernel
theorem dd_Ledger_ctor_36 : decode bm_Ledger_ctor 36 = .ok (.dup, 1) := by decide +kernel
theorem dd_Ledger_ctor_37 : decode bm_Ledger_ctor 37 = .ok (.invokespecial 28, 3) := by decide +kernel
theorem dd_Ledger_ctor_40 : decode bm_Ledger_ctor 40 = .ok (.putfield 29, 3) := by decide +kernel
theorem dd_Ledger_ctor_43 : decode bm_Ledger_ctor 43 = .ok (.aload_n 0, 1) := by decide +kernel
theorem dd_Ledger_ctor_44 : decode bm_Ledger_ctor 44 = .ok (.new 33, 3) := by decide +kernel
theorem dd_Ledger_ctor_47 : decode bm_Ledger_ctor 47 = .ok (.dup, 1) := by decide +kernel
theorem dd_Ledger_ctor_48 : decode bm_Ledger_ctor 48 = .ok (.invokespecial 35, 3) := by decide +kernel
theorem dd_Ledger_ctor_51 : decode bm_Ledger_ctor 51 = .ok (.putfield 36, 3) := by decide +kernel
theorem dd_Ledger_ctor_54 : decode bm_Ledger_ctor 54 = .ok (.aload_n 0, 1) := by decide +kernel
theorem dd_Ledger_ctor_55 : decode bm_Ledger_ctor 55 = .ok (.iconst 3, 1) := by decide +kernel
theorem dd_Ledger_ctor_56 : decode bm_Ledger_ctor 56 = .ok (.anewarray 40, 3) := by decide +kernel
theorem dd_Ledger_ctor_59 : decode bm_Ledger_ctor 59 = .ok (.putfield 42, 3) := by decide +kernel
theorem dd_Ledger_ctor_62 : decode bm_Ledger_ctor 62 = .ok (.iconst 0, 1) := by decide +kernel
theorem dd_Ledger_ctor_63 : decode bm_Ledger_ctor 63 = .ok (.istore_n 1, 1) := by decide +kernel
theorem dd_Ledger_ctor_64 : decode bm_Ledger_ctor 64 = .ok (.iload_n 1, 1) := by decide +kernel
theorem dd_Ledger_ctor_65 : decode bm_Ledger_ctor 65 = .ok (.bipush 8, 2) := by decide +kernel
theorem dd_Ledger_ctor_67 : decode bm_Ledger_ctor 67 = .ok (.if_icmp .ge 22, 3) := by decide +kernel
theorem dd_Ledger_ctor_70 : decode bm_Ledger_ctor 70 = .ok (.aload_n 0, 1) := by decide +kernel
theorem dd_Ledger_ctor_71 : decode bm_Ledger_ctor 71 = .ok (.getfield 18, 3) := by decide +kernel
theorem dd_Ledger_ctor_74 : decode bm_Ledger_ctor 74 = .ok (.iload_n 1, 1) := by decide +kernel
theorem dd_Ledger_ctor_75 : decode bm_Ledger_ctor 75 = .ok (.new 9, 3) := by decide +kernel
theorem dd_Ledger_ctor_78 : decode bm_Ledger_ctor 78 = .ok (.dup, 1) := by decide +kernel
theorem dd_Ledger_ctor_79 : decode bm_Ledger_ctor 79 = .ok (.invokespecial 11, 3) := by decide +kernel
theorem dd_Ledger_ctor_82 : decode bm_Ledger_ctor 82 = .ok (.aastore, 1) := by decide +kernel
theorem dd_Ledger_ctor_83 : decode bm_Ledger_ctor 83 = .ok (.iinc 1 1, 3) := by decide +kernel
theorem dd_Ledger_ctor_86 : decode bm_Ledger_ctor 86 = .ok (.goto (-22), 3) := by decide +kernel
theorem dd_Ledger_ctor_89 : decode bm_Ledger_ctor 89 = .ok (.iconst 0, 1) := by decide +kernel
theorem dd_Ledger_ctor_90 : decode bm_Ledger_ctor 90 = .ok (.istore_n 1, 1) := by decide +kernel
theorem dd_Ledger_ctor_91 : decode bm_Ledger_ctor 91 = .ok (.iload_n 1, 1) := by decide +kernel
theorem dd_Ledger_ctor_92 : decode bm_Ledger_ctor 92 = .ok (.iconst 3, 1) := by decide +kernel
theorem dd_Ledger_ctor_93 : decode bm_Ledger_ctor 93 = .ok (.if_icmp .ge 22, 3) := by decide +kernel
theorem dd_Ledger_ctor_96 : decode bm_Ledger_ctor 96 = .ok (.aload_n 0, 1) := by decide +kernel
theorem dd_Ledger_ctor_97 : decode bm_Ledger_ctor 97 = .ok (.getfield 42, 3) := by decide +kernel
theorem dd_Ledger_ctor_100 : decode bm_Ledger_ctor 100 = .ok (.iload_n 1, 1) := by decide +kernel
theorem dd_Ledger_ctor_101 : decode bm_Ledger_ctor 101 = .ok (.new 40, 3) := by decide +kernel
theorem dd_Ledger_ctor_104 : decode bm_Ledger_ctor 104 = .ok (.dup, 1) := by decide +kernel
theorem dd_Ledger_ctor_105 : decode bm_Ledger_ctor 105 = .ok (.invokespecial 46, 3) := by decide +kernel
theorem dd_Ledger_ctor_108 : decode bm_Ledger_ctor 108 = .ok (.aastore, 1) := by decide +kernel
theorem dd_Ledger_ctor_109 : decode bm_Ledger_ctor 109 = .ok (.iinc 1 1, 3) := by decide +kernel
theorem dd_Ledger_ctor_112 : decode bm_Ledger_ctor 112 = .ok (.goto (-21), 3) := by decide +kernel
theorem dd_Ledger_ctor_115 : decode bm_Ledger_ctor 115 = .ok (.return_, 1) := by decide +kernel
theorem dd_Ledger_makeBlock_0 : decode bm_Ledger_makeBlock 0 = .ok (.aload_n 0, 1) := by decide +kernel
theorem dd_Ledger_makeBlock_1 : decode bm_Ledger_makeBlock 1 = .ok (.getfield 47, 3) := by decide +kernel
theorem dd_Ledger_makeBlock_4 : decode bm_Ledger_makeBlock 4 = .ok (.sipush 512, 3) := by decide +kernel
theorem dd_Ledger_makeBlock_7 : decode bm_Ledger_makeBlock 7 = .ok (.if_icmp .ge 32, 3) := by decide +kernel
theorem dd_Ledger_makeBlock_10 : decode bm_Ledger_makeBlock 10 = .ok (.aload_n 0, 1) := by decide +kernel
theorem dd_Ledger_makeBlock_11 : decode bm_Ledger_makeBlock 11 = .ok (.dup, 1) := by decide +kernel
theorem dd_Ledger_makeBlock_12 : decode bm_Ledger_makeBlock 12 = .ok (.getfield 47, 3) := by decide +kernel
theorem dd_Ledger_makeBlock_15 : decode bm_Ledger_makeBlock 15 = .ok (.iconst 1, 1) := by decide +kernel
theorem dd_Ledger_makeBlock_16 : decode bm_Ledger_makeBlock 16 = .ok (.iadd, 1) := by decide +kernel
theorem dd_Ledger_makeBlock_17 : decode bm_Ledger_makeBlock 17 = .ok (.putfield 47, 3) := by decide +kernel
theorem dd_Ledger_makeBlock_20 : decode bm_Ledger_makeBlock 20 = .ok (.aload_n 0, 1) := by decide +kernel
theorem dd_Ledger_makeBlock_21 : decode bm_Ledger_makeBlock 21 = .ok (.getfield 18, 3) := by decide +kernel
theorem dd_Ledger_makeBlock_24 : decode bm_Ledger_makeBlock 24 = .ok (.aload_n 0, 1) := by decide +kernel
theorem dd_Ledger_makeBlock_25 : decode bm_Ledger_makeBlock 25 = .ok (.getfield 47, 3) := by decide +kernel
theorem dd_Ledger_makeBlock_28 : decode bm_Ledger_makeBlock 28 = .ok (.bipush 8, 2) := by decide +kernel
theorem dd_Ledger_makeBlock_30 : decode bm_Ledger_makeBlock 30 = .ok (.irem, 1) := by decide +kernel
theorem dd_Ledger_makeBlock_31 : decode bm_Ledger_makeBlock 31 = .ok (.aaload, 1) := by decide +kernel
theorem dd_Ledger_makeBlock_32 : decode bm_Ledger_makeBlock 32 = .ok (.aload_n 0, 1) := by decide +kernel
theorem dd_Ledger_makeBlock_33 : decode bm_Ledger_makeBlock 33 = .ok (.getfield 12, 3) := by decide +kernel
theorem dd_Ledger_makeBlock_36 : decode bm_Ledger_makeBlock 36 = .ok (.invokevirtual 51, 3) := by decide +kernel
theorem dd_Ledger_makeBlock_39 : decode bm_Ledger_makeBlock 39 = .ok (.aload_n 0, 1) := by decide +kernel
theorem dd_Ledger_makeBlock_40 : decode bm_Ledger_makeBlock 40 = .ok (.getfield 47, 3) := by decide +kernel
theorem dd_Ledger_makeBlock_43 : decode bm_Ledger_makeBlock 43 = .ok (.ireturn, 1) := by decide +kernel
theorem dd_Ledger_keeps_0 : decode bm_Ledger_keeps 0 = .ok (.iload_n 1, 1) := by decide +kernel
theorem dd_Ledger_keeps_1 : decode bm_Ledger_keeps 1 = .ok (.iconst 1, 1) := by decide +kernel
theorem dd_Ledger_keeps_2 : decode bm_Ledger_keeps 2 = .ok (.if_icmp .lt 26, 3) := by decide +kernel
theorem dd_Ledger_keeps_5 : decode bm_Ledger_keeps 5 = .ok (.iload_n 1, 1) := by decide +kernel
theorem dd_Ledger_keeps_6 : decode bm_Ledger_keeps 6 = .ok (.aload_n 0, 1) := by decide +kernel
theorem dd_Ledger_keeps_7 : decode bm_Ledger_keeps 7 = .ok (.getfield 47, 3) := by decide +kernel
theorem dd_Ledger_keeps_10 : decode bm_Ledger_keeps 10 = .ok (.if_icmp .gt 18, 3) := by decide +kernel
theorem dd_Ledger_keeps_13 : decode bm_Ledger_keeps 13 = .ok (.iload_n 1, 1) := by decide +kernel
theorem dd_Ledger_keeps_14 : decode bm_Ledger_keeps 14 = .ok (.aload_n 0, 1) := by decide +kernel
theorem dd_Ledger_keeps_15 : decode bm_Ledger_keeps 15 = .ok (.getfield 47, 3) := by decide +kernel
theorem dd_Ledger_keeps_18 : decode bm_Ledger_keeps 18 = .ok (.bipush 8, 2) := by decide +kernel
theorem dd_Ledger_keeps_20 : decode bm_Ledger_keeps 20 = .ok (.isub, 1) := by decide +kernel
theorem dd_Ledger_keeps_21 : decode bm_Ledger_keeps 21 = .ok (.if_icmp .le 7, 3) := by decide +kernel
theorem dd_Ledger_keeps_24 : decode bm_Ledger_keeps 24 = .ok (.iconst 1, 1) := by decide +kernel
theorem dd_Ledger_keeps_25 : decode bm_Ledger_keeps 25 = .ok (.goto 4, 3) := by decide +kernel
theorem dd_Ledger_keeps_28 : decode bm_Ledger_keeps 28 = .ok (.iconst 0, 1) := by decide +kernel
theorem dd_Ledger_keeps_29 : decode bm_Ledger_keeps 29 = .ok (.ireturn, 1) := by decide +kernel
theorem dd_Ledger_rootAt_0 : decode bm_Ledger_rootAt 0 = .ok (.aload_n 0, 1) := by decide +kernel
theorem dd_Ledger_rootAt_1 : decode bm_Ledger_rootAt 1 = .ok (.iload_n 1, 1) := by decide +kernel
theorem dd_Ledger_rootAt_2 : decode bm_Ledger_rootAt 2 = .ok (.invokevirtual 55, 3) := by decide +kernel
theorem dd_Ledger_rootAt_5 : decode bm_Ledger_rootAt 5 = .ok (.ifCond .eq 22, 3) := by decide +kernel
theorem dd_Ledger_rootAt_8 : decode bm_Ledger_rootAt 8 = .ok (.aload_n 0, 1) := by decide +kernel
theorem dd_Ledger_rootAt_9 : decode bm_Ledger_rootAt 9 = .ok (.getfield 18, 3) := by decide +kernel
theorem dd_Ledger_rootAt_12 : decode bm_Ledger_rootAt 12 = .ok (.iload_n 1, 1) := by decide +kernel
theorem dd_Ledger_rootAt_13 : decode bm_Ledger_rootAt 13 = .ok (.bipush 8, 2) := by decide +kernel
theorem dd_Ledger_rootAt_15 : decode bm_Ledger_rootAt 15 = .ok (.irem, 1) := by decide +kernel
theorem dd_Ledger_rootAt_16 : decode bm_Ledger_rootAt 16 = .ok (.aaload, 1) := by decide +kernel
theorem dd_Ledger_rootAt_17 : decode bm_Ledger_rootAt 17 = .ok (.aload_n 0, 1) := by decide +kernel
theorem dd_Ledger_rootAt_18 : decode bm_Ledger_rootAt 18 = .ok (.getfield 22, 3) := by decide +kernel
theorem dd_Ledger_rootAt_21 : decode bm_Ledger_rootAt 21 = .ok (.invokevirtual 59, 3) := by decide +kernel
theorem dd_Ledger_rootAt_24 : decode bm_Ledger_rootAt 24 = .ok (.goto 4, 3) := by decide +kernel
theorem dd_Ledger_rootAt_27 : decode bm_Ledger_rootAt 27 = .ok (.iconst 0, 1) := by decide +kernel
theorem dd_Ledger_rootAt_28 : decode bm_Ledger_rootAt 28 = .ok (.ireturn, 1) := by decide +kernel
theorem dd_Ledger_stateOf_0 : decode bm_Ledger_stateOf 0 = .ok (.aload_n 0, 1) := by decide +kernel
theorem dd_Ledger_stateOf_1 : decode bm_Ledger_stateOf 1 = .ok (.getfield 12, 3) := by decide +kernel
theorem dd_Ledger_stateOf_4 : decode bm_Ledger_stateOf 4 = .ok (.iload_n 1, 1) := by decide +kernel
theorem dd_Ledger_stateOf_5 : decode bm_Ledger_stateOf 5 = .ok (.invokestatic 63, 3) := by decide +kernel
theorem dd_Ledger_stateOf_8 : decode bm_Ledger_stateOf 8 = .ok (.invokevirtual 67, 3) := by decide +kernel
theorem dd_Ledger_stateOf_11 : decode bm_Ledger_stateOf 11 = .ok (.iconst 2, 1) := by decide +kernel
theorem dd_Ledger_stateOf_12 : decode bm_Ledger_stateOf 12 = .ok (.idiv, 1) := by decide +kernel
theorem dd_Ledger_stateOf_13 : decode bm_Ledger_stateOf 13 = .ok (.ireturn, 1) := by decide +kernel
theorem dd_Ledger_orderOf_0 : decode bm_Ledger_orderOf 0 = .ok (.aload_n 0, 1) := by decide +kernel
theorem dd_Ledger_orderOf_1 : decode bm_Ledger_orderOf 1 = .ok (.getfield 12, 3) := by decide +kernel
theorem dd_Ledger_orderOf_4 : decode bm_Ledger_orderOf 4 = .ok (.iload_n 1, 1) := by decide +kernel
theorem dd_Ledger_orderOf_5 : decode bm_Ledger_orderOf 5 = .ok (.invokestatic 63, 3) := by decide +kernel
theorem dd_Ledger_orderOf_8 : decode bm_Ledger_orderOf 8 = .ok (.invokevirtual 67, 3) := by decide +kernel
theorem dd_Ledger_orderOf_11 : decode bm_Ledger_orderOf 11 = .ok (.iconst 2, 1) := by decide +kernel
theorem dd_Ledger_orderOf_12 : decode bm_Ledger_orderOf 12 = .ok (.irem, 1) := by decide +kernel
theorem dd_Ledger_orderOf_13 : decode bm_Ledger_orderOf 13 = .ok (.ireturn, 1) := by decide +kernel
theorem dd_Ledger_isOrdered_0 : decode bm_Ledger_isOrdered 0 = .ok (.aload_n 0, 1) := by decide +kernel
theorem dd_Ledger_isOrdered_1 : decode bm_Ledger_isOrdered 1 = .ok (.iload_n 1, 1) := by decide +kernel
theorem dd_Ledger_isOrdered_2 : decode bm_Ledger_isOrdered 2 = .ok (.invokevirtual 70, 3) := by decide +kernel
theorem dd_Ledger_isOrdered_5 : decode bm_Ledger_isOrdered 5 = .ok (.iconst 1, 1) := by decide +kernel
theorem dd_Ledger_isOrdered_6 : decode bm_Ledger_isOrdered 6 = .ok (.if_icmp .ne 7, 3) := by decide +kernel
theorem dd_Ledger_isOrdered_9 : decode bm_Ledger_isOrdered 9 = .ok (.iconst 1, 1) := by decide +kernel
theorem dd_Ledger_isOrdered_10 : decode bm_Ledger_isOrdered 10 = .ok (.goto 4, 3) := by decide +kernel
theorem dd_Ledger_isOrdered_13 : decode bm_Ledger_isOrdered 13 = .ok (.iconst 0, 1) := by decide +kernel
theorem dd_Ledger_isOrdered_14 : decode bm_Ledger_isOrdered 14 = .ok (.ireturn, 1) := by decide +kernel
theorem dd_Ledger_nextToReceive_0 : decode bm_Ledger_nextToReceive 0 = .ok (.iconst 1, 1) := by decide +kernel
theorem dd_Ledger_nextToReceive_1 : decode bm_Ledger_nextToReceive 1 = .ok (.aload_n 0, 1) := by decide +kernel
theorem dd_Ledger_nextToReceive_2 : decode bm_Ledger_nextToReceive 2 = .ok (.getfield 12, 3) := by decide +kernel
theorem dd_Ledger_nextToReceive_5 : decode bm_Ledger_nextToReceive 5 = .ok (.iload_n 1, 1) := by decide +kernel
theorem dd_Ledger_nextToReceive_6 : decode bm_Ledger_nextToReceive 6 = .ok (.invokestatic 73, 3) := by decide +kernel
theorem dd_Ledger_nextToReceive_9 : decode bm_Ledger_nextToReceive 9 = .ok (.invokevirtual 67, 3) := by decide +kernel
theorem dd_Ledger_nextToReceive_12 : decode bm_Ledger_nextToReceive 12 = .ok (.invokestatic 76, 3) := by decide +kernel
theorem dd_Ledger_nextToReceive_15 : decode bm_Ledger_nextToReceive 15 = .ok (.ireturn, 1) := by decide +kernel
theorem dd_Ledger_reach_0 : decode bm_Ledger_reach 0 = .ok (.aload_n 0, 1) := by decide +kernel
theorem dd_Ledger_reach_1 : decode bm_Ledger_reach 1 = .ok (.getfield 29, 3) := by decide +kernel
theorem dd_Ledger_reach_4 : decode bm_Ledger_reach 4 = .ok (.iload_n 2, 1) := by decide +kernel
theorem dd_Ledger_reach_5 : decode bm_Ledger_reach 5 = .ok (.invokevirtual 82, 3) := by decide +kernel
theorem dd_Ledger_reach_8 : decode bm_Ledger_reach 8 = .ok (.ifCond .ne 6, 3) := by decide +kernel
theorem dd_Ledger_reach_11 : decode bm_Ledger_reach 11 = .ok (.bipush (-3), 2) := by decide +kernel
theorem dd_Ledger_reach_13 : decode bm_Ledger_reach 13 = .ok (.ireturn, 1) := by decide +kernel
theorem dd_Ledger_reach_14 : decode bm_Ledger_reach 14 = .ok (.aload_n 1, 1) := by decide +kernel
theorem dd_Ledger_reach_15 : decode bm_Ledger_reach 15 = .ok (.iload_n 2, 1) := by decide +kernel
theorem dd_Ledger_reach_16 : decode bm_Ledger_reach 16 = .ok (.invokevirtual 55, 3) := by decide +kernel
theorem dd_Ledger_reach_19 : decode bm_Ledger_reach 19 = .ok (.ifCond .eq 7, 3) := by decide +kernel
theorem dd_Ledger_reach_22 : decode bm_Ledger_reach 22 = .ok (.iconst 0, 1) := by decide +kernel
theorem dd_Ledger_reach_23 : decode bm_Ledger_reach 23 = .ok (.goto 5, 3) := by decide +kernel
theorem dd_Ledger_reach_26 : decode bm_Ledger_reach 26 = .ok (.bipush (-4), 2) := by decide +kernel
theorem dd_Ledger_reach_28 : decode bm_Ledger_reach 28 = .ok (.ireturn, 1) := by decide +kernel
theorem dd_Ledger_proveValue_0 : decode bm_Ledger_proveValue 0 = .ok (.aload_n 0, 1) := by decide +kernel
theorem dd_Ledger_proveValue_1 : decode bm_Ledger_proveValue 1 = .ok (.aload_n 1, 1) := by decide +kernel
theorem dd_Ledger_proveValue_2 : decode bm_Ledger_proveValue 2 = .ok (.iload_n 2, 1) := by decide +kernel
theorem dd_Ledger_proveValue_3 : decode bm_Ledger_proveValue 3 = .ok (.invokevirtual 85, 3) := by decide +kernel
theorem dd_Ledger_proveValue_6 : decode bm_Ledger_proveValue 6 = .ok (.istore 5, 2) := by decide +kernel
theorem dd_Ledger_proveValue_8 : decode bm_Ledger_proveValue 8 = .ok (.iload 5, 2) := by decide +kernel
theorem dd_Ledger_proveValue_10 : decode bm_Ledger_proveValue 10 = .ok (.ifCond .eq 6, 3) := by decide +kernel
theorem dd_Ledger_proveValue_13 : decode bm_Ledger_proveValue 13 = .ok (.iload 5, 2) := by decide +kernel
theorem dd_Ledger_proveValue_15 : decode bm_Ledger_proveValue 15 = .ok (.ireturn, 1) := by decide +kernel
theorem dd_Ledger_proveValue_16 : decode bm_Ledger_proveValue 16 = .ok (.aload_n 1, 1) := by decide +kernel
theorem dd_Ledger_proveValue_17 : decode bm_Ledger_proveValue 17 = .ok (.getfield 18, 3) := by decide +kernel
theorem dd_Ledger_proveValue_20 : decode bm_Ledger_proveValue 20 = .ok (.iload_n 2, 1) := by decide +kernel
theorem dd_Ledger_proveValue_21 : decode bm_Ledger_proveValue 21 = .ok (.bipush 8, 2) := by decide +kernel
theorem dd_Ledger_proveValue_23 : decode bm_Ledger_proveValue 23 = .ok (.irem, 1) := by decide +kernel
theorem dd_Ledger_proveValue_24 : decode bm_Ledger_proveValue 24 = .ok (.aaload, 1) := by decide +kernel
theorem dd_Ledger_proveValue_25 : decode bm_Ledger_proveValue 25 = .ok (.astore 6, 2) := by decide +kernel
theorem dd_Ledger_proveValue_27 : decode bm_Ledger_proveValue 27 = .ok (.aload 6, 2) := by decide +kernel
theorem dd_Ledger_proveValue_29 : decode bm_Ledger_proveValue 29 = .ok (.iload_n 3, 1) := by decide +kernel
theorem dd_Ledger_proveValue_30 : decode bm_Ledger_proveValue 30 = .ok (.invokevirtual 89, 3) := by decide +kernel
theorem dd_Ledger_proveValue_33 : decode bm_Ledger_proveValue 33 = .ok (.ifCond .eq 18, 3) := by decide +kernel
theorem dd_Ledger_proveValue_36 : decode bm_Ledger_proveValue 36 = .ok (.aload 6, 2) := by decide +kernel
theorem dd_Ledger_proveValue_38 : decode bm_Ledger_proveValue 38 = .ok (.iload_n 3, 1) := by decide +kernel
theorem dd_Ledger_proveValue_39 : decode bm_Ledger_proveValue 39 = .ok (.invokevirtual 67, 3) := by decide +kernel
theorem dd_Ledger_proveValue_42 : decode bm_Ledger_proveValue 42 = .ok (.iload 4, 2) := by decide +kernel
theorem dd_Ledger_proveValue_44 : decode bm_Ledger_proveValue 44 = .ok (.if_icmp .ne 7, 3) := by decide +kernel
theorem dd_Ledger_proveValue_47 : decode bm_Ledger_proveValue 47 = .ok (.iconst 0, 1) := by decide +kernel
theorem dd_Ledger_proveValue_48 : decode bm_Ledger_proveValue 48 = .ok (.goto 5, 3) := by decide +kernel
theorem dd_Ledger_proveValue_51 : decode bm_Ledger_proveValue 51 = .ok (.bipush (-5), 2) := by decide +kernel
theorem dd_Ledger_proveValue_53 : decode bm_Ledger_proveValue 53 = .ok (.ireturn, 1) := by decide +kernel
theorem dd_Ledger_proveAbsence_0 : decode bm_Ledger_proveAbsence 0 = .ok (.aload_n 0, 1) := by decide +kernel
theorem dd_Ledger_proveAbsence_1 : decode bm_Ledger_proveAbsence 1 = .ok (.aload_n 1, 1) := by decide +kernel
theorem dd_Ledger_proveAbsence_2 : decode bm_Ledger_proveAbsence 2 = .ok (.iload_n 2, 1) := by decide +kernel
theorem dd_Ledger_proveAbsence_3 : decode bm_Ledger_proveAbsence 3 = .ok (.invokevirtual 85, 3) := by decide +kernel
theorem dd_Ledger_proveAbsence_6 : decode bm_Ledger_proveAbsence 6 = .ok (.istore 4, 2) := by decide +kernel
theorem dd_Ledger_proveAbsence_8 : decode bm_Ledger_proveAbsence 8 = .ok (.iload 4, 2) := by decide +kernel
theorem dd_Ledger_proveAbsence_10 : decode bm_Ledger_proveAbsence 10 = .ok (.ifCond .eq 6, 3) := by decide +kernel
theorem dd_Ledger_proveAbsence_13 : decode bm_Ledger_proveAbsence 13 = .ok (.iload 4, 2) := by decide +kernel
theorem dd_Ledger_proveAbsence_15 : decode bm_Ledger_proveAbsence 15 = .ok (.ireturn, 1) := by decide +kernel
theorem dd_Ledger_proveAbsence_16 : decode bm_Ledger_proveAbsence 16 = .ok (.aload_n 1, 1) := by decide +kernel
theorem dd_Ledger_proveAbsence_17 : decode bm_Ledger_proveAbsence 17 = .ok (.getfield 18, 3) := by decide +kernel
theorem dd_Ledger_proveAbsence_20 : decode bm_Ledger_proveAbsence 20 = .ok (.iload_n 2, 1) := by decide +kernel
theorem dd_Ledger_proveAbsence_21 : decode bm_Ledger_proveAbsence 21 = .ok (.bipush 8, 2) := by decide +kernel
theorem dd_Ledger_proveAbsence_23 : decode bm_Ledger_proveAbsence 23 = .ok (.irem, 1) := by decide +kernel
theorem dd_Ledger_proveAbsence_24 : decode bm_Ledger_proveAbsence 24 = .ok (.aaload, 1) := by decide +kernel
theorem dd_Ledger_proveAbsence_25 : decode bm_Ledger_proveAbsence 25 = .ok (.iload_n 3, 1) := by decide +kernel
theorem dd_Ledger_proveAbsence_26 : decode bm_Ledger_proveAbsence 26 = .ok (.invokevirtual 89, 3) := by decide +kernel
theorem dd_Ledger_proveAbsence_29 : decode bm_Ledger_proveAbsence 29 = .ok (.ifCond .eq 8, 3) := by decide +kernel
theorem dd_Ledger_proveAbsence_32 : decode bm_Ledger_proveAbsence 32 = .ok (.bipush (-5), 2) := by decide +kernel
theorem dd_Ledger_proveAbsence_34 : decode bm_Ledger_proveAbsence 34 = .ok (.goto 4, 3) := by decide +kernel
theorem dd_Ledger_proveAbsence_37 : decode bm_Ledger_proveAbsence 37 = .ok (.iconst 0, 1) := by decide +kernel
theorem dd_Ledger_proveAbsence_38 : decode bm_Ledger_proveAbsence 38 = .ok (.ireturn, 1) := by decide +kernel
theorem dd_Ledger_proveEnd_0 : decode bm_Ledger_proveEnd 0 = .ok (.aload_n 0, 1) := by decide +kernel
theorem dd_Ledger_proveEnd_1 : decode bm_Ledger_proveEnd 1 = .ok (.aload_n 1, 1) := by decide +kernel
theorem dd_Ledger_proveEnd_2 : decode bm_Ledger_proveEnd 2 = .ok (.iload_n 2, 1) := by decide +kernel
theorem dd_Ledger_proveEnd_3 : decode bm_Ledger_proveEnd 3 = .ok (.iload_n 3, 1) := by decide +kernel
theorem dd_Ledger_proveEnd_4 : decode bm_Ledger_proveEnd 4 = .ok (.invokestatic 63, 3) := by decide +kernel
theorem dd_Ledger_proveEnd_7 : decode bm_Ledger_proveEnd 7 = .ok (.iconst 2, 1) := by decide +kernel
theorem dd_Ledger_proveEnd_8 : decode bm_Ledger_proveEnd 8 = .ok (.iload 4, 2) := by decide +kernel
theorem dd_Ledger_proveEnd_10 : decode bm_Ledger_proveEnd 10 = .ok (.imul, 1) := by decide +kernel
theorem dd_Ledger_proveEnd_11 : decode bm_Ledger_proveEnd 11 = .ok (.iload 5, 2) := by decide +kernel
theorem dd_Ledger_proveEnd_13 : decode bm_Ledger_proveEnd 13 = .ok (.iadd, 1) := by decide +kernel
theorem dd_Ledger_proveEnd_14 : decode bm_Ledger_proveEnd 14 = .ok (.invokevirtual 92, 3) := by decide +kernel
theorem dd_Ledger_proveEnd_17 : decode bm_Ledger_proveEnd 17 = .ok (.ireturn, 1) := by decide +kernel
theorem dd_Ledger_startEnd_0 : decode bm_Ledger_startEnd 0 = .ok (.aload_n 0, 1) := by decide +kernel
theorem dd_Ledger_startEnd_1 : decode bm_Ledger_startEnd 1 = .ok (.iload_n 1, 1) := by decide +kernel
theorem dd_Ledger_startEnd_2 : decode bm_Ledger_startEnd 2 = .ok (.invokevirtual 96, 3) := by decide +kernel
theorem dd_Ledger_startEnd_5 : decode bm_Ledger_startEnd 5 = .ok (.ifCond .eq 6, 3) := by decide +kernel
theorem dd_Ledger_startEnd_8 : decode bm_Ledger_startEnd 8 = .ok (.bipush (-2), 2) := by decide +kernel
theorem dd_Ledger_startEnd_10 : decode bm_Ledger_startEnd 10 = .ok (.ireturn, 1) := by decide +kernel
theorem dd_Ledger_startEnd_11 : decode bm_Ledger_startEnd 11 = .ok (.aload_n 0, 1) := by decide +kernel
theorem dd_Ledger_startEnd_12 : decode bm_Ledger_startEnd 12 = .ok (.iload_n 1, 1) := by decide +kernel
theorem dd_Ledger_startEnd_13 : decode bm_Ledger_startEnd 13 = .ok (.iconst 1, 1) := by decide +kernel
theorem dd_Ledger_startEnd_14 : decode bm_Ledger_startEnd 14 = .ok (.iload_n 2, 1) := by decide +kernel
theorem dd_Ledger_startEnd_15 : decode bm_Ledger_startEnd 15 = .ok (.ifCond .eq 7, 3) := by decide +kernel
theorem dd_Ledger_startEnd_18 : decode bm_Ledger_startEnd 18 = .ok (.iconst 1, 1) := by decide +kernel
theorem dd_Ledger_startEnd_19 : decode bm_Ledger_startEnd 19 = .ok (.goto 4, 3) := by decide +kernel
theorem dd_Ledger_startEnd_22 : decode bm_Ledger_startEnd 22 = .ok (.iconst 0, 1) := by decide +kernel
theorem dd_Ledger_startEnd_23 : decode bm_Ledger_startEnd 23 = .ok (.invokevirtual 99, 3) := by decide +kernel
theorem dd_Ledger_startEnd_26 : decode bm_Ledger_startEnd 26 = .ok (.iconst 0, 1) := by decide +kernel
theorem dd_Ledger_startEnd_27 : decode bm_Ledger_startEnd 27 = .ok (.ireturn, 1) := by decide +kernel
theorem dd_Ledger_makeEnd_0 : decode bm_Ledger_makeEnd 0 = .ok (.aload_n 0, 1) := by decide +kernel
theorem dd_Ledger_makeEnd_1 : decode bm_Ledger_makeEnd 1 = .ok (.getfield 12, 3) := by decide +kernel
theorem dd_Ledger_makeEnd_4 : decode bm_Ledger_makeEnd 4 = .ok (.iload_n 1, 1) := by decide +kernel
theorem dd_Ledger_makeEnd_5 : decode bm_Ledger_makeEnd 5 = .ok (.invokestatic 63, 3) := by decide +kernel
theorem dd_Ledger_makeEnd_8 : decode bm_Ledger_makeEnd 8 = .ok (.iconst 2, 1) := by decide +kernel
theorem dd_Ledger_makeEnd_9 : decode bm_Ledger_makeEnd 9 = .ok (.iload_n 2, 1) := by decide +kernel
theorem dd_Ledger_makeEnd_10 : decode bm_Ledger_makeEnd 10 = .ok (.imul, 1) := by decide +kernel
theorem dd_Ledger_makeEnd_11 : decode bm_Ledger_makeEnd 11 = .ok (.iload_n 3, 1) := by decide +kernel
theorem dd_Ledger_makeEnd_12 : decode bm_Ledger_makeEnd 12 = .ok (.iadd, 1) := by decide +kernel
theorem dd_Ledger_makeEnd_13 : decode bm_Ledger_makeEnd 13 = .ok (.invokevirtual 103, 3) := by decide +kernel
theorem dd_Ledger_makeEnd_16 : decode bm_Ledger_makeEnd 16 = .ok (.iload_n 3, 1) := by decide +kernel
theorem dd_Ledger_makeEnd_17 : decode bm_Ledger_makeEnd 17 = .ok (.iconst 1, 1) := by decide +kernel
theorem dd_Ledger_makeEnd_18 : decode bm_Ledger_makeEnd 18 = .ok (.if_icmp .ne 15, 3) := by decide +kernel
theorem dd_Ledger_makeEnd_21 : decode bm_Ledger_makeEnd 21 = .ok (.aload_n 0, 1) := by decide +kernel
theorem dd_Ledger_makeEnd_22 : decode bm_Ledger_makeEnd 22 = .ok (.getfield 12, 3) := by decide +kernel
theorem dd_Ledger_makeEnd_25 : decode bm_Ledger_makeEnd 25 = .ok (.iload_n 1, 1) := by decide +kernel
theorem dd_Ledger_makeEnd_26 : decode bm_Ledger_makeEnd 26 = .ok (.invokestatic 73, 3) := by decide +kernel
theorem dd_Ledger_makeEnd_29 : decode bm_Ledger_makeEnd 29 = .ok (.iconst 1, 1) := by decide +kernel
theorem dd_Ledger_makeEnd_30 : decode bm_Ledger_makeEnd 30 = .ok (.invokevirtual 103, 3) := by decide +kernel
theorem dd_Ledger_makeEnd_33 : decode bm_Ledger_makeEnd 33 = .ok (.return_, 1) := by decide +kernel
theorem dd_Ledger_tryEnd_0 : decode bm_Ledger_tryEnd 0 = .ok (.iload_n 3, 1) := by decide +kernel
theorem dd_Ledger_tryEnd_1 : decode bm_Ledger_tryEnd 1 = .ok (.ifCond .eq 7, 3) := by decide +kernel
theorem dd_Ledger_tryEnd_4 : decode bm_Ledger_tryEnd 4 = .ok (.iconst 1, 1) := by decide +kernel
theorem dd_Ledger_tryEnd_5 : decode bm_Ledger_tryEnd 5 = .ok (.goto 4, 3) := by decide +kernel
theorem dd_Ledger_tryEnd_8 : decode bm_Ledger_tryEnd 8 = .ok (.iconst 0, 1) := by decide +kernel
theorem dd_Ledger_tryEnd_9 : decode bm_Ledger_tryEnd 9 = .ok (.istore 5, 2) := by decide +kernel
theorem dd_Ledger_tryEnd_11 : decode bm_Ledger_tryEnd 11 = .ok (.aload_n 0, 1) := by decide +kernel
theorem dd_Ledger_tryEnd_12 : decode bm_Ledger_tryEnd 12 = .ok (.iload_n 2, 1) := by decide +kernel
theorem dd_Ledger_tryEnd_13 : decode bm_Ledger_tryEnd 13 = .ok (.invokevirtual 96, 3) := by decide +kernel
theorem dd_Ledger_tryEnd_16 : decode bm_Ledger_tryEnd 16 = .ok (.iconst 1, 1) := by decide +kernel
theorem dd_Ledger_tryEnd_17 : decode bm_Ledger_tryEnd 17 = .ok (.if_icmp .ne 17, 3) := by decide +kernel
theorem dd_Ledger_tryEnd_20 : decode bm_Ledger_tryEnd 20 = .ok (.aload_n 0, 1) := by decide +kernel
theorem dd_Ledger_tryEnd_21 : decode bm_Ledger_tryEnd 21 = .ok (.iload_n 2, 1) := by decide +kernel
theorem dd_Ledger_tryEnd_22 : decode bm_Ledger_tryEnd 22 = .ok (.invokevirtual 70, 3) := by decide +kernel
theorem dd_Ledger_tryEnd_25 : decode bm_Ledger_tryEnd 25 = .ok (.iload 5, 2) := by decide +kernel
theorem dd_Ledger_tryEnd_27 : decode bm_Ledger_tryEnd 27 = .ok (.if_icmp .ne 7, 3) := by decide +kernel
theorem dd_Ledger_tryEnd_30 : decode bm_Ledger_tryEnd 30 = .ok (.iconst 1, 1) := by decide +kernel
theorem dd_Ledger_tryEnd_31 : decode bm_Ledger_tryEnd 31 = .ok (.goto 4, 3) := by decide +kernel
theorem dd_Ledger_tryEnd_34 : decode bm_Ledger_tryEnd 34 = .ok (.iconst 0, 1) := by decide +kernel
theorem dd_Ledger_tryEnd_35 : decode bm_Ledger_tryEnd 35 = .ok (.istore 6, 2) := by decide +kernel
theorem dd_Ledger_tryEnd_37 : decode bm_Ledger_tryEnd 37 = .ok (.aload_n 0, 1) := by decide +kernel
theorem dd_Ledger_tryEnd_38 : decode bm_Ledger_tryEnd 38 = .ok (.iload_n 2, 1) := by decide +kernel
theorem dd_Ledger_tryEnd_39 : decode bm_Ledger_tryEnd 39 = .ok (.invokevirtual 96, 3) := by decide +kernel
theorem dd_Ledger_tryEnd_42 : decode bm_Ledger_tryEnd 42 = .ok (.ifCond .eq 11, 3) := by decide +kernel
theorem dd_Ledger_tryEnd_45 : decode bm_Ledger_tryEnd 45 = .ok (.iload 6, 2) := by decide +kernel
theorem dd_Ledger_tryEnd_47 : decode bm_Ledger_tryEnd 47 = .ok (.ifCond .ne 6, 3) := by decide +kernel
theorem dd_Ledger_tryEnd_50 : decode bm_Ledger_tryEnd 50 = .ok (.bipush (-2), 2) := by decide +kernel
theorem dd_Ledger_tryEnd_52 : decode bm_Ledger_tryEnd 52 = .ok (.ireturn, 1) := by decide +kernel
theorem dd_Ledger_tryEnd_53 : decode bm_Ledger_tryEnd 53 = .ok (.aload_n 0, 1) := by decide +kernel
theorem dd_Ledger_tryEnd_54 : decode bm_Ledger_tryEnd 54 = .ok (.aload_n 1, 1) := by decide +kernel
theorem dd_Ledger_tryEnd_55 : decode bm_Ledger_tryEnd 55 = .ok (.iload 4, 2) := by decide +kernel
theorem dd_Ledger_tryEnd_57 : decode bm_Ledger_tryEnd 57 = .ok (.iload_n 2, 1) := by decide +kernel
theorem dd_Ledger_tryEnd_58 : decode bm_Ledger_tryEnd 58 = .ok (.iconst 1, 1) := by decide +kernel
theorem dd_Ledger_tryEnd_59 : decode bm_Ledger_tryEnd 59 = .ok (.iload 5, 2) := by decide +kernel
theorem dd_Ledger_tryEnd_61 : decode bm_Ledger_tryEnd 61 = .ok (.invokevirtual 107, 3) := by decide +kernel
theorem dd_Ledger_tryEnd_64 : decode bm_Ledger_tryEnd 64 = .ok (.istore 7, 2) := by decide +kernel
theorem dd_Ledger_tryEnd_66 : decode bm_Ledger_tryEnd 66 = .ok (.iload 7, 2) := by decide +kernel
theorem dd_Ledger_tryEnd_68 : decode bm_Ledger_tryEnd 68 = .ok (.ifCond .eq 6, 3) := by decide +kernel
theorem dd_Ledger_tryEnd_71 : decode bm_Ledger_tryEnd 71 = .ok (.iload 7, 2) := by decide +kernel
theorem dd_Ledger_tryEnd_73 : decode bm_Ledger_tryEnd 73 = .ok (.ireturn, 1) := by decide +kernel
theorem dd_Ledger_tryEnd_74 : decode bm_Ledger_tryEnd 74 = .ok (.aload_n 0, 1) := by decide +kernel
theorem dd_Ledger_tryEnd_75 : decode bm_Ledger_tryEnd 75 = .ok (.iload_n 2, 1) := by decide +kernel
theorem dd_Ledger_tryEnd_76 : decode bm_Ledger_tryEnd 76 = .ok (.iconst 2, 1) := by decide +kernel
theorem dd_Ledger_tryEnd_77 : decode bm_Ledger_tryEnd 77 = .ok (.iload 5, 2) := by decide +kernel
theorem dd_Ledger_tryEnd_79 : decode bm_Ledger_tryEnd 79 = .ok (.invokevirtual 99, 3) := by decide +kernel
theorem dd_Ledger_tryEnd_82 : decode bm_Ledger_tryEnd 82 = .ok (.iconst 0, 1) := by decide +kernel
theorem dd_Ledger_tryEnd_83 : decode bm_Ledger_tryEnd 83 = .ok (.ireturn, 1) := by decide +kernel
theorem dd_Ledger_followEnd_0 : decode bm_Ledger_followEnd 0 = .ok (.aload_n 0, 1) := by decide +kernel
theorem dd_Ledger_followEnd_1 : decode bm_Ledger_followEnd 1 = .ok (.iload_n 2, 1) := by decide +kernel
theorem dd_Ledger_followEnd_2 : decode bm_Ledger_followEnd 2 = .ok (.invokevirtual 96, 3) := by decide +kernel
theorem dd_Ledger_followEnd_5 : decode bm_Ledger_followEnd 5 = .ok (.iload 4, 2) := by decide +kernel
theorem dd_Ledger_followEnd_7 : decode bm_Ledger_followEnd 7 = .ok (.if_icmp .eq 6, 3) := by decide +kernel
theorem dd_Ledger_followEnd_10 : decode bm_Ledger_followEnd 10 = .ok (.bipush (-2), 2) := by decide +kernel
theorem dd_Ledger_followEnd_12 : decode bm_Ledger_followEnd 12 = .ok (.ireturn, 1) := by decide +kernel
theorem dd_Ledger_followEnd_13 : decode bm_Ledger_followEnd 13 = .ok (.aload_n 0, 1) := by decide +kernel
theorem dd_Ledger_followEnd_14 : decode bm_Ledger_followEnd 14 = .ok (.aload_n 1, 1) := by decide +kernel
theorem dd_Ledger_followEnd_15 : decode bm_Ledger_followEnd 15 = .ok (.iload_n 3, 1) := by decide +kernel
theorem dd_Ledger_followEnd_16 : decode bm_Ledger_followEnd 16 = .ok (.iload_n 2, 1) := by decide +kernel
theorem dd_Ledger_followEnd_17 : decode bm_Ledger_followEnd 17 = .ok (.iload 5, 2) := by decide +kernel
theorem dd_Ledger_followEnd_19 : decode bm_Ledger_followEnd 19 = .ok (.aload_n 0, 1) := by decide +kernel
theorem dd_Ledger_followEnd_20 : decode bm_Ledger_followEnd 20 = .ok (.iload_n 2, 1) := by decide +kernel
theorem dd_Ledger_followEnd_21 : decode bm_Ledger_followEnd 21 = .ok (.invokevirtual 70, 3) := by decide +kernel
theorem dd_Ledger_followEnd_24 : decode bm_Ledger_followEnd 24 = .ok (.invokevirtual 107, 3) := by decide +kernel
theorem dd_Ledger_followEnd_27 : decode bm_Ledger_followEnd 27 = .ok (.istore 7, 2) := by decide +kernel
theorem dd_Ledger_followEnd_29 : decode bm_Ledger_followEnd 29 = .ok (.iload 7, 2) := by decide +kernel
theorem dd_Ledger_followEnd_31 : decode bm_Ledger_followEnd 31 = .ok (.ifCond .eq 6, 3) := by decide +kernel
theorem dd_Ledger_followEnd_34 : decode bm_Ledger_followEnd 34 = .ok (.iload 7, 2) := by decide +kernel
theorem dd_Ledger_followEnd_36 : decode bm_Ledger_followEnd 36 = .ok (.ireturn, 1) := by decide +kernel
theorem dd_Ledger_followEnd_37 : decode bm_Ledger_followEnd 37 = .ok (.aload_n 0, 1) := by decide +kernel
theorem dd_Ledger_followEnd_38 : decode bm_Ledger_followEnd 38 = .ok (.iload_n 2, 1) := by decide +kernel
theorem dd_Ledger_followEnd_39 : decode bm_Ledger_followEnd 39 = .ok (.iload 6, 2) := by decide +kernel
theorem dd_Ledger_followEnd_41 : decode bm_Ledger_followEnd 41 = .ok (.invokevirtual 111, 3) := by decide +kernel
theorem dd_Ledger_followEnd_44 : decode bm_Ledger_followEnd 44 = .ok (.iconst 0, 1) := by decide +kernel
theorem dd_Ledger_followEnd_45 : decode bm_Ledger_followEnd 45 = .ok (.ireturn, 1) := by decide +kernel
theorem dd_Ledger_closeEnd_0 : decode bm_Ledger_closeEnd 0 = .ok (.aload_n 0, 1) := by decide +kernel
theorem dd_Ledger_closeEnd_1 : decode bm_Ledger_closeEnd 1 = .ok (.iload_n 1, 1) := by decide +kernel
theorem dd_Ledger_closeEnd_2 : decode bm_Ledger_closeEnd 2 = .ok (.invokevirtual 96, 3) := by decide +kernel
theorem dd_Ledger_closeEnd_5 : decode bm_Ledger_closeEnd 5 = .ok (.iconst 3, 1) := by decide +kernel
theorem dd_Ledger_closeEnd_6 : decode bm_Ledger_closeEnd 6 = .ok (.if_icmp .eq 6, 3) := by decide +kernel
theorem dd_Ledger_closeEnd_9 : decode bm_Ledger_closeEnd 9 = .ok (.bipush (-2), 2) := by decide +kernel
theorem dd_Ledger_closeEnd_11 : decode bm_Ledger_closeEnd 11 = .ok (.ireturn, 1) := by decide +kernel
theorem dd_Ledger_closeEnd_12 : decode bm_Ledger_closeEnd 12 = .ok (.aload_n 0, 1) := by decide +kernel
theorem dd_Ledger_closeEnd_13 : decode bm_Ledger_closeEnd 13 = .ok (.iload_n 1, 1) := by decide +kernel
theorem dd_Ledger_closeEnd_14 : decode bm_Ledger_closeEnd 14 = .ok (.iconst 4, 1) := by decide +kernel
theorem dd_Ledger_closeEnd_15 : decode bm_Ledger_closeEnd 15 = .ok (.invokevirtual 111, 3) := by decide +kernel
theorem dd_Ledger_closeEnd_18 : decode bm_Ledger_closeEnd 18 = .ok (.iconst 0, 1) := by decide +kernel
theorem dd_Ledger_closeEnd_19 : decode bm_Ledger_closeEnd 19 = .ok (.ireturn, 1) := by decide +kernel
theorem dd_Ledger_moveEnd_0 : decode bm_Ledger_moveEnd 0 = .ok (.aload_n 0, 1) := by decide +kernel
theorem dd_Ledger_moveEnd_1 : decode bm_Ledger_moveEnd 1 = .ok (.getfield 12, 3) := by decide +kernel
theorem dd_Ledger_moveEnd_4 : decode bm_Ledger_moveEnd 4 = .ok (.iload_n 1, 1) := by decide +kernel
theorem dd_Ledger_moveEnd_5 : decode bm_Ledger_moveEnd 5 = .ok (.invokestatic 63, 3) := by decide +kernel
theorem dd_Ledger_moveEnd_8 : decode bm_Ledger_moveEnd 8 = .ok (.iconst 2, 1) := by decide +kernel
theorem dd_Ledger_moveEnd_9 : decode bm_Ledger_moveEnd 9 = .ok (.iload_n 2, 1) := by decide +kernel
theorem dd_Ledger_moveEnd_10 : decode bm_Ledger_moveEnd 10 = .ok (.imul, 1) := by decide +kernel
theorem dd_Ledger_moveEnd_11 : decode bm_Ledger_moveEnd 11 = .ok (.aload_n 0, 1) := by decide +kernel
theorem dd_Ledger_moveEnd_12 : decode bm_Ledger_moveEnd 12 = .ok (.iload_n 1, 1) := by decide +kernel
theorem dd_Ledger_moveEnd_13 : decode bm_Ledger_moveEnd 13 = .ok (.invokevirtual 70, 3) := by decide +kernel
theorem dd_Ledger_moveEnd_16 : decode bm_Ledger_moveEnd 16 = .ok (.iadd, 1) := by decide +kernel
theorem dd_Ledger_moveEnd_17 : decode bm_Ledger_moveEnd 17 = .ok (.invokevirtual 103, 3) := by decide +kernel
theorem dd_Ledger_moveEnd_20 : decode bm_Ledger_moveEnd 20 = .ok (.return_, 1) := by decide +kernel
theorem dd_Ledger_sendPacket_0 : decode bm_Ledger_sendPacket 0 = .ok (.aload_n 0, 1) := by decide +kernel
theorem dd_Ledger_sendPacket_1 : decode bm_Ledger_sendPacket 1 = .ok (.iload_n 1, 1) := by decide +kernel
theorem dd_Ledger_sendPacket_2 : decode bm_Ledger_sendPacket 2 = .ok (.invokevirtual 96, 3) := by decide +kernel
theorem dd_Ledger_sendPacket_5 : decode bm_Ledger_sendPacket 5 = .ok (.iconst 3, 1) := by decide +kernel
theorem dd_Ledger_sendPacket_6 : decode bm_Ledger_sendPacket 6 = .ok (.if_icmp .eq 6, 3) := by decide +kernel
theorem dd_Ledger_sendPacket_9 : decode bm_Ledger_sendPacket 9 = .ok (.bipush (-2), 2) := by decide +kernel
theorem dd_Ledger_sendPacket_11 : decode bm_Ledger_sendPacket 11 = .ok (.ireturn, 1) := by decide +kernel
theorem dd_Ledger_sendPacket_12 : decode bm_Ledger_sendPacket 12 = .ok (.aload_n 0, 1) := by decide +kernel
theorem dd_Ledger_sendPacket_13 : decode bm_Ledger_sendPacket 13 = .ok (.getfield 42, 3) := by decide +kernel
theorem dd_Ledger_sendPacket_16 : decode bm_Ledger_sendPacket 16 = .ok (.iload_n 1, 1) := by decide +kernel
theorem dd_Ledger_sendPacket_17 : decode bm_Ledger_sendPacket 17 = .ok (.aaload, 1) := by decide +kernel
theorem dd_Ledger_sendPacket_18 : decode bm_Ledger_sendPacket 18 = .ok (.astore 6, 2) := by decide +kernel
theorem dd_Ledger_sendPacket_20 : decode bm_Ledger_sendPacket 20 = .ok (.iload_n 2, 1) := by decide +kernel
theorem dd_Ledger_sendPacket_21 : decode bm_Ledger_sendPacket 21 = .ok (.iconst 4, 1) := by decide +kernel
theorem dd_Ledger_sendPacket_22 : decode bm_Ledger_sendPacket 22 = .ok (.idiv, 1) := by decide +kernel
theorem dd_Ledger_sendPacket_23 : decode bm_Ledger_sendPacket 23 = .ok (.istore 7, 2) := by decide +kernel
theorem dd_Ledger_sendPacket_25 : decode bm_Ledger_sendPacket 25 = .ok (.aload 6, 2) := by decide +kernel
theorem dd_Ledger_sendPacket_27 : decode bm_Ledger_sendPacket 27 = .ok (.getfield 114, 3) := by decide +kernel
theorem dd_Ledger_sendPacket_30 : decode bm_Ledger_sendPacket 30 = .ok (.bipush 12, 2) := by decide +kernel
theorem dd_Ledger_sendPacket_32 : decode bm_Ledger_sendPacket 32 = .ok (.if_icmp .ge 20, 3) := by decide +kernel
theorem dd_Ledger_sendPacket_35 : decode bm_Ledger_sendPacket 35 = .ok (.aload_n 0, 1) := by decide +kernel
theorem dd_Ledger_sendPacket_36 : decode bm_Ledger_sendPacket 36 = .ok (.getfield 36, 3) := by decide +kernel
theorem dd_Ledger_sendPacket_39 : decode bm_Ledger_sendPacket 39 = .ok (.getfield 117, 3) := by decide +kernel
theorem dd_Ledger_sendPacket_42 : decode bm_Ledger_sendPacket 42 = .ok (.iload 7, 2) := by decide +kernel
theorem dd_Ledger_sendPacket_44 : decode bm_Ledger_sendPacket 44 = .ok (.aaload, 1) := by decide +kernel
theorem dd_Ledger_sendPacket_45 : decode bm_Ledger_sendPacket 45 = .ok (.iload_n 3, 1) := by decide +kernel
theorem dd_Ledger_sendPacket_46 : decode bm_Ledger_sendPacket 46 = .ok (.iaload, 1) := by decide +kernel
theorem dd_Ledger_sendPacket_47 : decode bm_Ledger_sendPacket 47 = .ok (.iload 4, 2) := by decide +kernel
theorem dd_Ledger_sendPacket_49 : decode bm_Ledger_sendPacket 49 = .ok (.if_icmp .ge 6, 3) := by decide +kernel
theorem dd_Ledger_sendPacket_52 : decode bm_Ledger_sendPacket 52 = .ok (.bipush (-7), 2) := by decide +kernel
theorem dd_Ledger_sendPacket_54 : decode bm_Ledger_sendPacket 54 = .ok (.ireturn, 1) := by decide +kernel
theorem dd_Ledger_sendPacket_55 : decode bm_Ledger_sendPacket 55 = .ok (.aload 6, 2) := by decide +kernel
theorem dd_Ledger_sendPacket_57 : decode bm_Ledger_sendPacket 57 = .ok (.getfield 121, 3) := by decide +kernel
theorem dd_Ledger_sendPacket_60 : decode bm_Ledger_sendPacket 60 = .ok (.aload 6, 2) := by decide +kernel
theorem dd_Ledger_sendPacket_62 : decode bm_Ledger_sendPacket 62 = .ok (.getfield 114, 3) := by decide +kernel
theorem dd_Ledger_sendPacket_65 : decode bm_Ledger_sendPacket 65 = .ok (.aaload, 1) := by decide +kernel
theorem dd_Ledger_sendPacket_66 : decode bm_Ledger_sendPacket 66 = .ok (.astore 8, 2) := by decide +kernel
theorem dd_Ledger_sendPacket_68 : decode bm_Ledger_sendPacket 68 = .ok (.aload 8, 2) := by decide +kernel
theorem dd_Ledger_sendPacket_70 : decode bm_Ledger_sendPacket 70 = .ok (.iload_n 3, 1) := by decide +kernel
theorem dd_Ledger_sendPacket_71 : decode bm_Ledger_sendPacket 71 = .ok (.putfield 125, 3) := by decide +kernel
theorem dd_Ledger_sendPacket_74 : decode bm_Ledger_sendPacket 74 = .ok (.aload 8, 2) := by decide +kernel
theorem dd_Ledger_sendPacket_76 : decode bm_Ledger_sendPacket 76 = .ok (.iload 4, 2) := by decide +kernel
theorem dd_Ledger_sendPacket_78 : decode bm_Ledger_sendPacket 78 = .ok (.putfield 130, 3) := by decide +kernel
theorem dd_Ledger_sendPacket_81 : decode bm_Ledger_sendPacket 81 = .ok (.aload 8, 2) := by decide +kernel
theorem dd_Ledger_sendPacket_83 : decode bm_Ledger_sendPacket 83 = .ok (.iload 7, 2) := by decide +kernel
theorem dd_Ledger_sendPacket_85 : decode bm_Ledger_sendPacket 85 = .ok (.putfield 133, 3) := by decide +kernel
theorem dd_Ledger_sendPacket_88 : decode bm_Ledger_sendPacket 88 = .ok (.aload 8, 2) := by decide +kernel
theorem dd_Ledger_sendPacket_90 : decode bm_Ledger_sendPacket 90 = .ok (.iload_n 2, 1) := by decide +kernel
theorem dd_Ledger_sendPacket_91 : decode bm_Ledger_sendPacket 91 = .ok (.iconst 4, 1) := by decide +kernel
theorem dd_Ledger_sendPacket_92 : decode bm_Ledger_sendPacket 92 = .ok (.irem, 1) := by decide +kernel
theorem dd_Ledger_sendPacket_93 : decode bm_Ledger_sendPacket 93 = .ok (.putfield 136, 3) := by decide +kernel
theorem dd_Ledger_sendPacket_96 : decode bm_Ledger_sendPacket 96 = .ok (.aload 8, 2) := by decide +kernel
theorem dd_Ledger_sendPacket_98 : decode bm_Ledger_sendPacket 98 = .ok (.aload_n 0, 1) := by decide +kernel
theorem dd_Ledger_sendPacket_99 : decode bm_Ledger_sendPacket 99 = .ok (.getfield 29, 3) := by decide +kernel
theorem dd_Ledger_sendPacket_102 : decode bm_Ledger_sendPacket 102 = .ok (.getfield 139, 3) := by decide +kernel
theorem dd_Ledger_sendPacket_105 : decode bm_Ledger_sendPacket 105 = .ok (.iload 5, 2) := by decide +kernel
theorem dd_Ledger_sendPacket_107 : decode bm_Ledger_sendPacket 107 = .ok (.iadd, 1) := by decide +kernel
theorem dd_Ledger_sendPacket_108 : decode bm_Ledger_sendPacket 108 = .ok (.putfield 142, 3) := by decide +kernel
theorem dd_Ledger_sendPacket_111 : decode bm_Ledger_sendPacket 111 = .ok (.aload 8, 2) := by decide +kernel
theorem dd_Ledger_sendPacket_113 : decode bm_Ledger_sendPacket 113 = .ok (.aload_n 0, 1) := by decide +kernel
theorem dd_Ledger_sendPacket_114 : decode bm_Ledger_sendPacket 114 = .ok (.getfield 36, 3) := by decide +kernel
theorem dd_Ledger_sendPacket_117 : decode bm_Ledger_sendPacket 117 = .ok (.iload_n 3, 1) := by decide +kernel
theorem dd_Ledger_sendPacket_118 : decode bm_Ledger_sendPacket 118 = .ok (.iload_n 1, 1) := by decide +kernel
theorem dd_Ledger_sendPacket_119 : decode bm_Ledger_sendPacket 119 = .ok (.invokevirtual 145, 3) := by decide +kernel
theorem dd_Ledger_sendPacket_122 : decode bm_Ledger_sendPacket 122 = .ok (.putfield 148, 3) := by decide +kernel
theorem dd_Ledger_sendPacket_125 : decode bm_Ledger_sendPacket 125 = .ok (.aload 6, 2) := by decide +kernel
theorem dd_Ledger_sendPacket_127 : decode bm_Ledger_sendPacket 127 = .ok (.dup, 1) := by decide +kernel
theorem dd_Ledger_sendPacket_128 : decode bm_Ledger_sendPacket 128 = .ok (.getfield 114, 3) := by decide +kernel
theorem dd_Ledger_sendPacket_131 : decode bm_Ledger_sendPacket 131 = .ok (.iconst 1, 1) := by decide +kernel
theorem dd_Ledger_sendPacket_132 : decode bm_Ledger_sendPacket 132 = .ok (.iadd, 1) := by decide +kernel
theorem dd_Ledger_sendPacket_133 : decode bm_Ledger_sendPacket 133 = .ok (.putfield 114, 3) := by decide +kernel
theorem dd_Ledger_sendPacket_136 : decode bm_Ledger_sendPacket 136 = .ok (.aload_n 0, 1) := by decide +kernel
theorem dd_Ledger_sendPacket_137 : decode bm_Ledger_sendPacket 137 = .ok (.getfield 36, 3) := by decide +kernel
theorem dd_Ledger_sendPacket_140 : decode bm_Ledger_sendPacket 140 = .ok (.aload 8, 2) := by decide +kernel
theorem dd_Ledger_sendPacket_142 : decode bm_Ledger_sendPacket 142 = .ok (.iload_n 1, 1) := by decide +kernel
theorem dd_Ledger_sendPacket_143 : decode bm_Ledger_sendPacket 143 = .ok (.invokevirtual 151, 3) := by decide +kernel
theorem dd_Ledger_sendPacket_146 : decode bm_Ledger_sendPacket 146 = .ok (.aload_n 0, 1) := by decide +kernel
theorem dd_Ledger_sendPacket_147 : decode bm_Ledger_sendPacket 147 = .ok (.getfield 12, 3) := by decide +kernel
theorem dd_Ledger_sendPacket_150 : decode bm_Ledger_sendPacket 150 = .ok (.iload_n 1, 1) := by decide +kernel
theorem dd_Ledger_sendPacket_151 : decode bm_Ledger_sendPacket 151 = .ok (.aload 6, 2) := by decide +kernel
theorem dd_Ledger_sendPacket_153 : decode bm_Ledger_sendPacket 153 = .ok (.getfield 114, 3) := by decide +kernel
theorem dd_Ledger_sendPacket_156 : decode bm_Ledger_sendPacket 156 = .ok (.invokestatic 155, 3) := by decide +kernel
theorem dd_Ledger_sendPacket_159 : decode bm_Ledger_sendPacket 159 = .ok (.aload 8, 2) := by decide +kernel
theorem dd_Ledger_sendPacket_161 : decode bm_Ledger_sendPacket 161 = .ok (.iconst 0, 1) := by decide +kernel
theorem dd_Ledger_sendPacket_162 : decode bm_Ledger_sendPacket 162 = .ok (.invokevirtual 158, 3) := by decide +kernel
theorem dd_Ledger_sendPacket_165 : decode bm_Ledger_sendPacket 165 = .ok (.invokevirtual 103, 3) := by decide +kernel
theorem dd_Ledger_sendPacket_168 : decode bm_Ledger_sendPacket 168 = .ok (.aload 6, 2) := by decide +kernel
theorem dd_Ledger_sendPacket_170 : decode bm_Ledger_sendPacket 170 = .ok (.getfield 114, 3) := by decide +kernel
theorem dd_Ledger_sendPacket_173 : decode bm_Ledger_sendPacket 173 = .ok (.ireturn, 1) := by decide +kernel
theorem dd_Ledger_receivePacket_0 : decode bm_Ledger_receivePacket 0 = .ok (.aload_n 1, 1) := by decide +kernel
theorem dd_Ledger_receivePacket_1 : decode bm_Ledger_receivePacket 1 = .ok (.getfield 42, 3) := by decide +kernel
theorem dd_Ledger_receivePacket_4 : decode bm_Ledger_receivePacket 4 = .ok (.iload_n 2, 1) := by decide +kernel
theorem dd_Ledger_receivePacket_5 : decode bm_Ledger_receivePacket 5 = .ok (.aaload, 1) := by decide +kernel
theorem dd_Ledger_receivePacket_6 : decode bm_Ledger_receivePacket 6 = .ok (.getfield 121, 3) := by decide +kernel
theorem dd_Ledger_receivePacket_9 : decode bm_Ledger_receivePacket 9 = .ok (.iload_n 3, 1) := by decide +kernel
theorem dd_Ledger_receivePacket_10 : decode bm_Ledger_receivePacket 10 = .ok (.iconst 1, 1) := by decide +kernel
theorem dd_Ledger_receivePacket_11 : decode bm_Ledger_receivePacket 11 = .ok (.isub, 1) := by decide +kernel
theorem dd_Ledger_receivePacket_12 : decode bm_Ledger_receivePacket 12 = .ok (.aaload, 1) := by decide +kernel
theorem dd_Ledger_receivePacket_13 : decode bm_Ledger_receivePacket 13 = .ok (.astore 6, 2) := by decide +kernel
theorem dd_Ledger_receivePacket_15 : decode bm_Ledger_receivePacket 15 = .ok (.aload_n 0, 1) := by decide +kernel
theorem dd_Ledger_receivePacket_16 : decode bm_Ledger_receivePacket 16 = .ok (.iload_n 2, 1) := by decide +kernel
theorem dd_Ledger_receivePacket_17 : decode bm_Ledger_receivePacket 17 = .ok (.invokevirtual 96, 3) := by decide +kernel
theorem dd_Ledger_receivePacket_20 : decode bm_Ledger_receivePacket 20 = .ok (.iconst 3, 1) := by decide +kernel
theorem dd_Ledger_receivePacket_21 : decode bm_Ledger_receivePacket 21 = .ok (.if_icmp .eq 6, 3) := by decide +kernel
theorem dd_Ledger_receivePacket_24 : decode bm_Ledger_receivePacket 24 = .ok (.bipush (-2), 2) := by decide +kernel
theorem dd_Ledger_receivePacket_26 : decode bm_Ledger_receivePacket 26 = .ok (.ireturn, 1) := by decide +kernel
theorem dd_Ledger_receivePacket_27 : decode bm_Ledger_receivePacket 27 = .ok (.aload_n 0, 1) := by decide +kernel
theorem dd_Ledger_receivePacket_28 : decode bm_Ledger_receivePacket 28 = .ok (.getfield 47, 3) := by decide +kernel
theorem dd_Ledger_receivePacket_31 : decode bm_Ledger_receivePacket 31 = .ok (.aload 6, 2) := by decide +kernel
theorem dd_Ledger_receivePacket_33 : decode bm_Ledger_receivePacket 33 = .ok (.getfield 142, 3) := by decide +kernel
theorem dd_Ledger_receivePacket_36 : decode bm_Ledger_receivePacket 36 = .ok (.if_icmp .lt 6, 3) := by decide +kernel
theorem dd_Ledger_receivePacket_39 : decode bm_Ledger_receivePacket 39 = .ok (.bipush (-9), 2) := by decide +kernel
theorem dd_Ledger_receivePacket_41 : decode bm_Ledger_receivePacket 41 = .ok (.ireturn, 1) := by decide +kernel
theorem dd_Ledger_receivePacket_42 : decode bm_Ledger_receivePacket 42 = .ok (.aload_n 0, 1) := by decide +kernel
theorem dd_Ledger_receivePacket_43 : decode bm_Ledger_receivePacket 43 = .ok (.iload_n 2, 1) := by decide +kernel
theorem dd_Ledger_receivePacket_44 : decode bm_Ledger_receivePacket 44 = .ok (.iload_n 3, 1) := by decide +kernel
theorem dd_Ledger_receivePacket_45 : decode bm_Ledger_receivePacket 45 = .ok (.invokevirtual 161, 3) := by decide +kernel
theorem dd_Ledger_receivePacket_48 : decode bm_Ledger_receivePacket 48 = .ok (.ifCond .ne 6, 3) := by decide +kernel
theorem dd_Ledger_receivePacket_51 : decode bm_Ledger_receivePacket 51 = .ok (.bipush (-8), 2) := by decide +kernel
theorem dd_Ledger_receivePacket_53 : decode bm_Ledger_receivePacket 53 = .ok (.ireturn, 1) := by decide +kernel
theorem dd_Ledger_receivePacket_54 : decode bm_Ledger_receivePacket 54 = .ok (.aload 6, 2) := by decide +kernel
theorem dd_Ledger_receivePacket_56 : decode bm_Ledger_receivePacket 56 = .ok (.iload 5, 2) := by decide +kernel
theorem dd_Ledger_receivePacket_58 : decode bm_Ledger_receivePacket 58 = .ok (.ifCond .eq 7, 3) := by decide +kernel
theorem dd_Ledger_receivePacket_61 : decode bm_Ledger_receivePacket 61 = .ok (.iconst 1, 1) := by decide +kernel
theorem dd_Ledger_receivePacket_62 : decode bm_Ledger_receivePacket 62 = .ok (.goto 4, 3) := by decide +kernel
theorem dd_Ledger_receivePacket_65 : decode bm_Ledger_receivePacket 65 = .ok (.iconst 0, 1) := by decide +kernel
theorem dd_Ledger_receivePacket_66 : decode bm_Ledger_receivePacket 66 = .ok (.invokevirtual 158, 3) := by decide +kernel
theorem dd_Ledger_receivePacket_69 : decode bm_Ledger_receivePacket 69 = .ok (.istore 7, 2) := by decide +kernel
theorem dd_Ledger_receivePacket_71 : decode bm_Ledger_receivePacket 71 = .ok (.aload_n 0, 1) := by decide +kernel
theorem dd_Ledger_receivePacket_72 : decode bm_Ledger_receivePacket 72 = .ok (.aload_n 1, 1) := by decide +kernel
theorem dd_Ledger_receivePacket_73 : decode bm_Ledger_receivePacket 73 = .ok (.iload 4, 2) := by decide +kernel
theorem dd_Ledger_receivePacket_75 : decode bm_Ledger_receivePacket 75 = .ok (.iload_n 2, 1) := by decide +kernel
theorem dd_Ledger_receivePacket_76 : decode bm_Ledger_receivePacket 76 = .ok (.iload_n 3, 1) := by decide +kernel
theorem dd_Ledger_receivePacket_77 : decode bm_Ledger_receivePacket 77 = .ok (.invokestatic 155, 3) := by decide +kernel
theorem dd_Ledger_receivePacket_80 : decode bm_Ledger_receivePacket 80 = .ok (.iload 7, 2) := by decide +kernel
theorem dd_Ledger_receivePacket_82 : decode bm_Ledger_receivePacket 82 = .ok (.invokevirtual 92, 3) := by decide +kernel
theorem dd_Ledger_receivePacket_85 : decode bm_Ledger_receivePacket 85 = .ok (.istore 8, 2) := by decide +kernel
theorem dd_Ledger_receivePacket_87 : decode bm_Ledger_receivePacket 87 = .ok (.iload 8, 2) := by decide +kernel
theorem dd_Ledger_receivePacket_89 : decode bm_Ledger_receivePacket 89 = .ok (.ifCond .eq 6, 3) := by decide +kernel
theorem dd_Ledger_receivePacket_92 : decode bm_Ledger_receivePacket 92 = .ok (.iload 8, 2) := by decide +kernel
theorem dd_Ledger_receivePacket_94 : decode bm_Ledger_receivePacket 94 = .ok (.ireturn, 1) := by decide +kernel
theorem dd_Ledger_receivePacket_95 : decode bm_Ledger_receivePacket 95 = .ok (.aload_n 0, 1) := by decide +kernel
theorem dd_Ledger_receivePacket_96 : decode bm_Ledger_receivePacket 96 = .ok (.getfield 36, 3) := by decide +kernel
theorem dd_Ledger_receivePacket_99 : decode bm_Ledger_receivePacket 99 = .ok (.aload 6, 2) := by decide +kernel
theorem dd_Ledger_receivePacket_101 : decode bm_Ledger_receivePacket 101 = .ok (.iload_n 2, 1) := by decide +kernel
theorem dd_Ledger_receivePacket_102 : decode bm_Ledger_receivePacket 102 = .ok (.invokevirtual 165, 3) := by decide +kernel
theorem dd_Ledger_receivePacket_105 : decode bm_Ledger_receivePacket 105 = .ok (.ifCond .eq 7, 3) := by decide +kernel
theorem dd_Ledger_receivePacket_108 : decode bm_Ledger_receivePacket 108 = .ok (.iconst 1, 1) := by decide +kernel
theorem dd_Ledger_receivePacket_109 : decode bm_Ledger_receivePacket 109 = .ok (.goto 4, 3) := by decide +kernel
theorem dd_Ledger_receivePacket_112 : decode bm_Ledger_receivePacket 112 = .ok (.iconst 2, 1) := by decide +kernel
theorem dd_Ledger_receivePacket_113 : decode bm_Ledger_receivePacket 113 = .ok (.istore 9, 2) := by decide +kernel
theorem dd_Ledger_receivePacket_115 : decode bm_Ledger_receivePacket 115 = .ok (.aload_n 0, 1) := by decide +kernel
theorem dd_Ledger_receivePacket_116 : decode bm_Ledger_receivePacket 116 = .ok (.iload_n 2, 1) := by decide +kernel
theorem dd_Ledger_receivePacket_117 : decode bm_Ledger_receivePacket 117 = .ok (.iload_n 3, 1) := by decide +kernel
theorem dd_Ledger_receivePacket_118 : decode bm_Ledger_receivePacket 118 = .ok (.iload 9, 2) := by decide +kernel
theorem dd_Ledger_receivePacket_120 : decode bm_Ledger_receivePacket 120 = .ok (.invokevirtual 169, 3) := by decide +kernel
theorem dd_Ledger_receivePacket_123 : decode bm_Ledger_receivePacket 123 = .ok (.iload 9, 2) := by decide +kernel
theorem dd_Ledger_receivePacket_125 : decode bm_Ledger_receivePacket 125 = .ok (.ireturn, 1) := by decide +kernel
theorem dd_Ledger_isReceivable_0 : decode bm_Ledger_isReceivable 0 = .ok (.aload_n 0, 1) := by decide +kernel
theorem dd_Ledger_isReceivable_1 : decode bm_Ledger_isReceivable 1 = .ok (.iload_n 1, 1) := by decide +kernel
theorem dd_Ledger_isReceivable_2 : decode bm_Ledger_isReceivable 2 = .ok (.invokevirtual 172, 3) := by decide +kernel
theorem dd_Ledger_isReceivable_5 : decode bm_Ledger_isReceivable 5 = .ok (.ifCond .eq 20, 3) := by decide +kernel
theorem dd_Ledger_isReceivable_8 : decode bm_Ledger_isReceivable 8 = .ok (.iload_n 2, 1) := by decide +kernel
theorem dd_Ledger_isReceivable_9 : decode bm_Ledger_isReceivable 9 = .ok (.aload_n 0, 1) := by decide +kernel
theorem dd_Ledger_isReceivable_10 : decode bm_Ledger_isReceivable 10 = .ok (.iload_n 1, 1) := by decide +kernel
theorem dd_Ledger_isReceivable_11 : decode bm_Ledger_isReceivable 11 = .ok (.invokevirtual 175, 3) := by decide +kernel
theorem dd_Ledger_isReceivable_14 : decode bm_Ledger_isReceivable 14 = .ok (.if_icmp .ne 7, 3) := by decide +kernel
theorem dd_Ledger_isReceivable_17 : decode bm_Ledger_isReceivable 17 = .ok (.iconst 1, 1) := by decide +kernel
theorem dd_Ledger_isReceivable_18 : decode bm_Ledger_isReceivable 18 = .ok (.goto 27, 3) := by decide +kernel
theorem dd_Ledger_isReceivable_21 : decode bm_Ledger_isReceivable 21 = .ok (.iconst 0, 1) := by decide +kernel
theorem dd_Ledger_isReceivable_22 : decode bm_Ledger_isReceivable 22 = .ok (.goto 23, 3) := by decide +kernel
theorem dd_Ledger_isReceivable_25 : decode bm_Ledger_isReceivable 25 = .ok (.aload_n 0, 1) := by decide +kernel
theorem dd_Ledger_isReceivable_26 : decode bm_Ledger_isReceivable 26 = .ok (.getfield 12, 3) := by decide +kernel
theorem dd_Ledger_isReceivable_29 : decode bm_Ledger_isReceivable 29 = .ok (.iload_n 1, 1) := by decide +kernel
theorem dd_Ledger_isReceivable_30 : decode bm_Ledger_isReceivable 30 = .ok (.iload_n 2, 1) := by decide +kernel
theorem dd_Ledger_isReceivable_31 : decode bm_Ledger_isReceivable 31 = .ok (.invokestatic 178, 3) := by decide +kernel
theorem dd_Ledger_isReceivable_34 : decode bm_Ledger_isReceivable 34 = .ok (.invokevirtual 89, 3) := by decide +kernel
theorem dd_Ledger_isReceivable_37 : decode bm_Ledger_isReceivable 37 = .ok (.ifCond .ne 7, 3) := by decide +kernel
theorem dd_Ledger_isReceivable_40 : decode bm_Ledger_isReceivable 40 = .ok (.iconst 1, 1) := by decide +kernel
theorem dd_Ledger_isReceivable_41 : decode bm_Ledger_isReceivable 41 = .ok (.goto 4, 3) := by decide +kernel
theorem dd_Ledger_isReceivable_44 : decode bm_Ledger_isReceivable 44 = .ok (.iconst 0, 1) := by decide +kernel
theorem dd_Ledger_isReceivable_45 : decode bm_Ledger_isReceivable 45 = .ok (.ireturn, 1) := by decide +kernel
theorem dd_Ledger_noteReceived_0 : decode bm_Ledger_noteReceived 0 = .ok (.aload_n 0, 1) := by decide +kernel
theorem dd_Ledger_noteReceived_1 : decode bm_Ledger_noteReceived 1 = .ok (.iload_n 1, 1) := by decide +kernel
theorem dd_Ledger_noteReceived_2 : decode bm_Ledger_noteReceived 2 = .ok (.invokevirtual 172, 3) := by decide +kernel
theorem dd_Ledger_noteReceived_5 : decode bm_Ledger_noteReceived 5 = .ok (.ifCond .eq 20, 3) := by decide +kernel
theorem dd_Ledger_noteReceived_8 : decode bm_Ledger_noteReceived 8 = .ok (.aload_n 0, 1) := by decide +kernel
theorem dd_Ledger_noteReceived_9 : decode bm_Ledger_noteReceived 9 = .ok (.getfield 12, 3) := by decide +kernel
theorem dd_Ledger_noteReceived_12 : decode bm_Ledger_noteReceived 12 = .ok (.iload_n 1, 1) := by decide +kernel
theorem dd_Ledger_noteReceived_13 : decode bm_Ledger_noteReceived 13 = .ok (.invokestatic 73, 3) := by decide +kernel
theorem dd_Ledger_noteReceived_16 : decode bm_Ledger_noteReceived 16 = .ok (.iload_n 2, 1) := by decide +kernel
theorem dd_Ledger_noteReceived_17 : decode bm_Ledger_noteReceived 17 = .ok (.iconst 1, 1) := by decide +kernel
theorem dd_Ledger_noteReceived_18 : decode bm_Ledger_noteReceived 18 = .ok (.iadd, 1) := by decide +kernel
theorem dd_Ledger_noteReceived_19 : decode bm_Ledger_noteReceived 19 = .ok (.invokevirtual 103, 3) := by decide +kernel
theorem dd_Ledger_noteReceived_22 : decode bm_Ledger_noteReceived 22 = .ok (.goto 16, 3) := by decide +kernel
theorem dd_Ledger_noteReceived_25 : decode bm_Ledger_noteReceived 25 = .ok (.aload_n 0, 1) := by decide +kernel
theorem dd_Ledger_noteReceived_26 : decode bm_Ledger_noteReceived 26 = .ok (.getfield 12, 3) := by decide +kernel
theorem dd_Ledger_noteReceived_29 : decode bm_Ledger_noteReceived 29 = .ok (.iload_n 1, 1) := by decide +kernel
theorem dd_Ledger_noteReceived_30 : decode bm_Ledger_noteReceived 30 = .ok (.iload_n 2, 1) := by decide +kernel
theorem dd_Ledger_noteReceived_31 : decode bm_Ledger_noteReceived 31 = .ok (.invokestatic 178, 3) := by decide +kernel
theorem dd_Ledger_noteReceived_34 : decode bm_Ledger_noteReceived 34 = .ok (.iconst 1, 1) := by decide +kernel
theorem dd_Ledger_noteReceived_35 : decode bm_Ledger_noteReceived 35 = .ok (.invokevirtual 103, 3) := by decide +kernel
theorem dd_Ledger_noteReceived_38 : decode bm_Ledger_noteReceived 38 = .ok (.aload_n 0, 1) := by decide +kernel
theorem dd_Ledger_noteReceived_39 : decode bm_Ledger_noteReceived 39 = .ok (.getfield 12, 3) := by decide +kernel
theorem dd_Ledger_noteReceived_42 : decode bm_Ledger_noteReceived 42 = .ok (.iload_n 1, 1) := by decide +kernel
theorem dd_Ledger_noteReceived_43 : decode bm_Ledger_noteReceived 43 = .ok (.iload_n 2, 1) := by decide +kernel
theorem dd_Ledger_noteReceived_44 : decode bm_Ledger_noteReceived 44 = .ok (.invokestatic 181, 3) := by decide +kernel
theorem dd_Ledger_noteReceived_47 : decode bm_Ledger_noteReceived 47 = .ok (.iload_n 3, 1) := by decide +kernel
theorem dd_Ledger_noteReceived_48 : decode bm_Ledger_noteReceived 48 = .ok (.invokevirtual 103, 3) := by decide +kernel
theorem dd_Ledger_noteReceived_51 : decode bm_Ledger_noteReceived 51 = .ok (.return_, 1) := by decide +kernel
theorem dd_Ledger_settleAnswered_0 : decode bm_Ledger_settleAnswered 0 = .ok (.aload_n 0, 1) := by decide +kernel
theorem dd_Ledger_settleAnswered_1 : decode bm_Ledger_settleAnswered 1 = .ok (.getfield 42, 3) := by decide +kernel
theorem dd_Ledger_settleAnswered_4 : decode bm_Ledger_settleAnswered 4 = .ok (.iload_n 2, 1) := by decide +kernel
theorem dd_Ledger_settleAnswered_5 : decode bm_Ledger_settleAnswered 5 = .ok (.aaload, 1) := by decide +kernel
theorem dd_Ledger_settleAnswered_6 : decode bm_Ledger_settleAnswered 6 = .ok (.astore 5, 2) := by decide +kernel
theorem dd_Ledger_settleAnswered_8 : decode bm_Ledger_settleAnswered 8 = .ok (.aload_n 0, 1) := by decide +kernel
theorem dd_Ledger_settleAnswered_9 : decode bm_Ledger_settleAnswered 9 = .ok (.iload_n 2, 1) := by decide +kernel
theorem dd_Ledger_settleAnswered_10 : decode bm_Ledger_settleAnswered 10 = .ok (.invokevirtual 96, 3) := by decide +kernel
theorem dd_Ledger_settleAnswered_13 : decode bm_Ledger_settleAnswered 13 = .ok (.iconst 3, 1) := by decide +kernel
theorem dd_Ledger_settleAnswered_14 : decode bm_Ledger_settleAnswered 14 = .ok (.if_icmp .eq 6, 3) := by decide +kernel
theorem dd_Ledger_settleAnswered_17 : decode bm_Ledger_settleAnswered 17 = .ok (.bipush (-2), 2) := by decide +kernel
theorem dd_Ledger_settleAnswered_19 : decode bm_Ledger_settleAnswered 19 = .ok (.ireturn, 1) := by decide +kernel
theorem dd_Ledger_settleAnswered_20 : decode bm_Ledger_settleAnswered 20 = .ok (.aload_n 0, 1) := by decide +kernel
theorem dd_Ledger_settleAnswered_21 : decode bm_Ledger_settleAnswered 21 = .ok (.iload_n 2, 1) := by decide +kernel
theorem dd_Ledger_settleAnswered_22 : decode bm_Ledger_settleAnswered 22 = .ok (.invokevirtual 172, 3) := by decide +kernel
theorem dd_Ledger_settleAnswered_25 : decode bm_Ledger_settleAnswered 25 = .ok (.ifCond .eq 12, 3) := by decide +kernel
theorem dd_Ledger_settleAnswered_28 : decode bm_Ledger_settleAnswered 28 = .ok (.iload_n 3, 1) := by decide +kernel
theorem dd_Ledger_settleAnswered_29 : decode bm_Ledger_settleAnswered 29 = .ok (.aload 5, 2) := by decide +kernel
theorem dd_Ledger_settleAnswered_31 : decode bm_Ledger_settleAnswered 31 = .ok (.getfield 184, 3) := by decide +kernel
theorem dd_Ledger_settleAnswered_34 : decode bm_Ledger_settleAnswered 34 = .ok (.if_icmp .ne 7, 3) := by decide +kernel
theorem dd_Ledger_settleAnswered_37 : decode bm_Ledger_settleAnswered 37 = .ok (.iconst 1, 1) := by decide +kernel
theorem dd_Ledger_settleAnswered_38 : decode bm_Ledger_settleAnswered 38 = .ok (.goto 4, 3) := by decide +kernel
theorem dd_Ledger_settleAnswered_41 : decode bm_Ledger_settleAnswered 41 = .ok (.iconst 0, 1) := by decide +kernel
theorem dd_Ledger_settleAnswered_42 : decode bm_Ledger_settleAnswered 42 = .ok (.istore 6, 2) := by decide +kernel
theorem dd_Ledger_settleAnswered_44 : decode bm_Ledger_settleAnswered 44 = .ok (.aload 5, 2) := by decide +kernel
theorem dd_Ledger_settleAnswered_46 : decode bm_Ledger_settleAnswered 46 = .ok (.getfield 121, 3) := by decide +kernel
theorem dd_Ledger_settleAnswered_49 : decode bm_Ledger_settleAnswered 49 = .ok (.iload_n 3, 1) := by decide +kernel
theorem dd_Ledger_settleAnswered_50 : decode bm_Ledger_settleAnswered 50 = .ok (.iconst 1, 1) := by decide +kernel
theorem dd_Ledger_settleAnswered_51 : decode bm_Ledger_settleAnswered 51 = .ok (.isub, 1) := by decide +kernel
theorem dd_Ledger_settleAnswered_52 : decode bm_Ledger_settleAnswered 52 = .ok (.aaload, 1) := by decide +kernel
theorem dd_Ledger_settleAnswered_53 : decode bm_Ledger_settleAnswered 53 = .ok (.getfield 187, 3) := by decide +kernel
theorem dd_Ledger_settleAnswered_56 : decode bm_Ledger_settleAnswered 56 = .ok (.ifCond .ne 8, 3) := by decide +kernel
theorem dd_Ledger_settleAnswered_59 : decode bm_Ledger_settleAnswered 59 = .ok (.iload 6, 2) := by decide +kernel
theorem dd_Ledger_settleAnswered_61 : decode bm_Ledger_settleAnswered 61 = .ok (.ifCond .ne 6, 3) := by decide +kernel
theorem dd_Ledger_settleAnswered_64 : decode bm_Ledger_settleAnswered 64 = .ok (.bipush (-8), 2) := by decide +kernel
theorem dd_Ledger_settleAnswered_66 : decode bm_Ledger_settleAnswered 66 = .ok (.ireturn, 1) := by decide +kernel
theorem dd_Ledger_settleAnswered_67 : decode bm_Ledger_settleAnswered 67 = .ok (.iload_n 2, 1) := by decide +kernel
theorem dd_Ledger_settleAnswered_68 : decode bm_Ledger_settleAnswered 68 = .ok (.iload_n 3, 1) := by decide +kernel
theorem dd_Ledger_settleAnswered_69 : decode bm_Ledger_settleAnswered 69 = .ok (.invokestatic 181, 3) := by decide +kernel
theorem dd_Ledger_settleAnswered_72 : decode bm_Ledger_settleAnswered 72 = .ok (.istore 7, 2) := by decide +kernel
theorem dd_Ledger_settleAnswered_74 : decode bm_Ledger_settleAnswered 74 = .ok (.aload_n 1, 1) := by decide +kernel
theorem dd_Ledger_settleAnswered_75 : decode bm_Ledger_settleAnswered 75 = .ok (.getfield 12, 3) := by decide +kernel
theorem dd_Ledger_settleAnswered_78 : decode bm_Ledger_settleAnswered 78 = .ok (.iload 7, 2) := by decide +kernel
theorem dd_Ledger_settleAnswered_80 : decode bm_Ledger_settleAnswered 80 = .ok (.invokevirtual 89, 3) := by decide +kernel
theorem dd_Ledger_settleAnswered_83 : decode bm_Ledger_settleAnswered 83 = .ok (.ifCond .ne 6, 3) := by decide +kernel
theorem dd_Ledger_settleAnswered_86 : decode bm_Ledger_settleAnswered 86 = .ok (.bipush (-5), 2) := by decide +kernel
theorem dd_Ledger_settleAnswered_88 : decode bm_Ledger_settleAnswered 88 = .ok (.ireturn, 1) := by decide +kernel
theorem dd_Ledger_settleAnswered_89 : decode bm_Ledger_settleAnswered 89 = .ok (.aload_n 1, 1) := by decide +kernel
theorem dd_Ledger_settleAnswered_90 : decode bm_Ledger_settleAnswered 90 = .ok (.getfield 12, 3) := by decide +kernel
theorem dd_Ledger_settleAnswered_93 : decode bm_Ledger_settleAnswered 93 = .ok (.iload 7, 2) := by decide +kernel
theorem dd_Ledger_settleAnswered_95 : decode bm_Ledger_settleAnswered 95 = .ok (.invokevirtual 67, 3) := by decide +kernel
theorem dd_Ledger_settleAnswered_98 : decode bm_Ledger_settleAnswered 98 = .ok (.istore 8, 2) := by decide +kernel
theorem dd_Ledger_settleAnswered_100 : decode bm_Ledger_settleAnswered 100 = .ok (.aload_n 0, 1) := by decide +kernel
theorem dd_Ledger_settleAnswered_101 : decode bm_Ledger_settleAnswered 101 = .ok (.aload_n 1, 1) := by decide +kernel
theorem dd_Ledger_settleAnswered_102 : decode bm_Ledger_settleAnswered 102 = .ok (.iload 4, 2) := by decide +kernel
theorem dd_Ledger_settleAnswered_104 : decode bm_Ledger_settleAnswered 104 = .ok (.iload 7, 2) := by decide +kernel
theorem dd_Ledger_settleAnswered_106 : decode bm_Ledger_settleAnswered 106 = .ok (.iload 8, 2) := by decide +kernel
theorem dd_Ledger_settleAnswered_108 : decode bm_Ledger_settleAnswered 108 = .ok (.invokevirtual 92, 3) := by decide +kernel
theorem dd_Ledger_settleAnswered_111 : decode bm_Ledger_settleAnswered 111 = .ok (.istore 9, 2) := by decide +kernel
theorem dd_Ledger_settleAnswered_113 : decode bm_Ledger_settleAnswered 113 = .ok (.iload 9, 2) := by decide +kernel
theorem dd_Ledger_settleAnswered_115 : decode bm_Ledger_settleAnswered 115 = .ok (.ifCond .eq 6, 3) := by decide +kernel
theorem dd_Ledger_settleAnswered_118 : decode bm_Ledger_settleAnswered 118 = .ok (.iload 9, 2) := by decide +kernel
theorem dd_Ledger_settleAnswered_120 : decode bm_Ledger_settleAnswered 120 = .ok (.ireturn, 1) := by decide +kernel
theorem dd_Ledger_settleAnswered_121 : decode bm_Ledger_settleAnswered 121 = .ok (.aload_n 0, 1) := by decide +kernel
theorem dd_Ledger_settleAnswered_122 : decode bm_Ledger_settleAnswered 122 = .ok (.iload_n 2, 1) := by decide +kernel
theorem dd_Ledger_settleAnswered_123 : decode bm_Ledger_settleAnswered 123 = .ok (.invokevirtual 172, 3) := by decide +kernel
theorem dd_Ledger_settleAnswered_126 : decode bm_Ledger_settleAnswered 126 = .ok (.ifCond .eq 11, 3) := by decide +kernel
theorem dd_Ledger_settleAnswered_129 : decode bm_Ledger_settleAnswered 129 = .ok (.aload 5, 2) := by decide +kernel
theorem dd_Ledger_settleAnswered_131 : decode bm_Ledger_settleAnswered 131 = .ok (.iload_n 3, 1) := by decide +kernel
theorem dd_Ledger_settleAnswered_132 : decode bm_Ledger_settleAnswered 132 = .ok (.iconst 1, 1) := by decide +kernel
theorem dd_Ledger_settleAnswered_133 : decode bm_Ledger_settleAnswered 133 = .ok (.iadd, 1) := by decide +kernel
theorem dd_Ledger_settleAnswered_134 : decode bm_Ledger_settleAnswered 134 = .ok (.putfield 184, 3) := by decide +kernel
theorem dd_Ledger_settleAnswered_137 : decode bm_Ledger_settleAnswered 137 = .ok (.aload_n 0, 1) := by decide +kernel
theorem dd_Ledger_settleAnswered_138 : decode bm_Ledger_settleAnswered 138 = .ok (.iload_n 2, 1) := by decide +kernel
theorem dd_Ledger_settleAnswered_139 : decode bm_Ledger_settleAnswered 139 = .ok (.iload_n 3, 1) := by decide +kernel
theorem dd_Ledger_settleAnswered_140 : decode bm_Ledger_settleAnswered 140 = .ok (.iload 8, 2) := by decide +kernel
theorem dd_Ledger_settleAnswered_142 : decode bm_Ledger_settleAnswered 142 = .ok (.invokevirtual 190, 3) := by decide +kernel
theorem dd_Ledger_settleAnswered_145 : decode bm_Ledger_settleAnswered 145 = .ok (.iload 8, 2) := by decide +kernel
theorem dd_Ledger_settleAnswered_147 : decode bm_Ledger_settleAnswered 147 = .ok (.ireturn, 1) := by decide +kernel
theorem dd_Ledger_settleTimedOut_0 : decode bm_Ledger_settleTimedOut 0 = .ok (.aload_n 0, 1) := by decide +kernel
theorem dd_Ledger_settleTimedOut_1 : decode bm_Ledger_settleTimedOut 1 = .ok (.getfield 42, 3) := by decide +kernel
theorem dd_Ledger_settleTimedOut_4 : decode bm_Ledger_settleTimedOut 4 = .ok (.iload_n 2, 1) := by decide +kernel
theorem dd_Ledger_settleTimedOut_5 : decode bm_Ledger_settleTimedOut 5 = .ok (.aaload, 1) := by decide +kernel
theorem dd_Ledger_settleTimedOut_6 : decode bm_Ledger_settleTimedOut 6 = .ok (.getfield 121, 3) := by decide +kernel
theorem dd_Ledger_settleTimedOut_9 : decode bm_Ledger_settleTimedOut 9 = .ok (.iload_n 3, 1) := by decide +kernel
theorem dd_Ledger_settleTimedOut_10 : decode bm_Ledger_settleTimedOut 10 = .ok (.iconst 1, 1) := by decide +kernel
theorem dd_Ledger_settleTimedOut_11 : decode bm_Ledger_settleTimedOut 11 = .ok (.isub, 1) := by decide +kernel
theorem dd_Ledger_settleTimedOut_12 : decode bm_Ledger_settleTimedOut 12 = .ok (.aaload, 1) := by decide +kernel
theorem dd_Ledger_settleTimedOut_13 : decode bm_Ledger_settleTimedOut 13 = .ok (.astore 6, 2) := by decide +kernel
theorem dd_Ledger_settleTimedOut_15 : decode bm_Ledger_settleTimedOut 15 = .ok (.aload 6, 2) := by decide +kernel
theorem dd_Ledger_settleTimedOut_17 : decode bm_Ledger_settleTimedOut 17 = .ok (.getfield 187, 3) := by decide +kernel
theorem dd_Ledger_settleTimedOut_20 : decode bm_Ledger_settleTimedOut 20 = .ok (.ifCond .eq 6, 3) := by decide +kernel
theorem dd_Ledger_settleTimedOut_23 : decode bm_Ledger_settleTimedOut 23 = .ok (.bipush (-8), 2) := by decide +kernel
theorem dd_Ledger_settleTimedOut_25 : decode bm_Ledger_settleTimedOut 25 = .ok (.ireturn, 1) := by decide +kernel
theorem dd_Ledger_settleTimedOut_26 : decode bm_Ledger_settleTimedOut 26 = .ok (.iload 5, 2) := by decide +kernel
theorem dd_Ledger_settleTimedOut_28 : decode bm_Ledger_settleTimedOut 28 = .ok (.ifCond .ne 16, 3) := by decide +kernel
theorem dd_Ledger_settleTimedOut_31 : decode bm_Ledger_settleTimedOut 31 = .ok (.iload 4, 2) := by decide +kernel
theorem dd_Ledger_settleTimedOut_33 : decode bm_Ledger_settleTimedOut 33 = .ok (.aload 6, 2) := by decide +kernel
theorem dd_Ledger_settleTimedOut_35 : decode bm_Ledger_settleTimedOut 35 = .ok (.getfield 142, 3) := by decide +kernel
theorem dd_Ledger_settleTimedOut_38 : decode bm_Ledger_settleTimedOut 38 = .ok (.if_icmp .ge 6, 3) := by decide +kernel
theorem dd_Ledger_settleTimedOut_41 : decode bm_Ledger_settleTimedOut 41 = .ok (.bipush (-9), 2) := by decide +kernel
theorem dd_Ledger_settleTimedOut_43 : decode bm_Ledger_settleTimedOut 43 = .ok (.ireturn, 1) := by decide +kernel
theorem dd_Ledger_settleTimedOut_44 : decode bm_Ledger_settleTimedOut 44 = .ok (.iload 5, 2) := by decide +kernel
theorem dd_Ledger_settleTimedOut_46 : decode bm_Ledger_settleTimedOut 46 = .ok (.ifCond .eq 20, 3) := by decide +kernel
theorem dd_Ledger_settleTimedOut_49 : decode bm_Ledger_settleTimedOut 49 = .ok (.aload_n 0, 1) := by decide +kernel
theorem dd_Ledger_settleTimedOut_50 : decode bm_Ledger_settleTimedOut 50 = .ok (.aload_n 1, 1) := by decide +kernel
theorem dd_Ledger_settleTimedOut_51 : decode bm_Ledger_settleTimedOut 51 = .ok (.iload 4, 2) := by decide +kernel
theorem dd_Ledger_settleTimedOut_53 : decode bm_Ledger_settleTimedOut 53 = .ok (.iload_n 2, 1) := by decide +kernel
theorem dd_Ledger_settleTimedOut_54 : decode bm_Ledger_settleTimedOut 54 = .ok (.iconst 4, 1) := by decide +kernel
theorem dd_Ledger_settleTimedOut_55 : decode bm_Ledger_settleTimedOut 55 = .ok (.aload_n 0, 1) := by decide +kernel
theorem dd_Ledger_settleTimedOut_56 : decode bm_Ledger_settleTimedOut 56 = .ok (.iload_n 2, 1) := by decide +kernel
theorem dd_Ledger_settleTimedOut_57 : decode bm_Ledger_settleTimedOut 57 = .ok (.invokevirtual 70, 3) := by decide +kernel
theorem dd_Ledger_settleTimedOut_60 : decode bm_Ledger_settleTimedOut 60 = .ok (.invokevirtual 107, 3) := by decide +kernel
theorem dd_Ledger_settleTimedOut_63 : decode bm_Ledger_settleTimedOut 63 = .ok (.goto 4, 3) := by decide +kernel
theorem dd_Ledger_settleTimedOut_66 : decode bm_Ledger_settleTimedOut 66 = .ok (.iconst 0, 1) := by decide +kernel
theorem dd_Ledger_settleTimedOut_67 : decode bm_Ledger_settleTimedOut 67 = .ok (.istore 7, 2) := by decide +kernel
theorem dd_Ledger_settleTimedOut_69 : decode bm_Ledger_settleTimedOut 69 = .ok (.iload 7, 2) := by decide +kernel
theorem dd_Ledger_settleTimedOut_71 : decode bm_Ledger_settleTimedOut 71 = .ok (.ifCond .ne 14, 3) := by decide +kernel
theorem dd_Ledger_settleTimedOut_74 : decode bm_Ledger_settleTimedOut 74 = .ok (.aload_n 0, 1) := by decide +kernel
theorem dd_Ledger_settleTimedOut_75 : decode bm_Ledger_settleTimedOut 75 = .ok (.aload_n 1, 1) := by decide +kernel
theorem dd_Ledger_settleTimedOut_76 : decode bm_Ledger_settleTimedOut 76 = .ok (.iload_n 2, 1) := by decide +kernel
theorem dd_Ledger_settleTimedOut_77 : decode bm_Ledger_settleTimedOut 77 = .ok (.iload_n 3, 1) := by decide +kernel
theorem dd_Ledger_settleTimedOut_78 : decode bm_Ledger_settleTimedOut 78 = .ok (.iload 4, 2) := by decide +kernel
theorem dd_Ledger_settleTimedOut_80 : decode bm_Ledger_settleTimedOut 80 = .ok (.invokevirtual 193, 3) := by decide +kernel
theorem dd_Ledger_settleTimedOut_83 : decode bm_Ledger_settleTimedOut 83 = .ok (.istore 7, 2) := by decide +kernel
theorem dd_Ledger_settleTimedOut_85 : decode bm_Ledger_settleTimedOut 85 = .ok (.iload 7, 2) := by decide +kernel
theorem dd_Ledger_settleTimedOut_87 : decode bm_Ledger_settleTimedOut 87 = .ok (.ifCond .eq 6, 3) := by decide +kernel
theorem dd_Ledger_settleTimedOut_90 : decode bm_Ledger_settleTimedOut 90 = .ok (.iload 7, 2) := by decide +kernel
theorem dd_Ledger_settleTimedOut_92 : decode bm_Ledger_settleTimedOut 92 = .ok (.ireturn, 1) := by decide +kernel
theorem dd_Ledger_settleTimedOut_93 : decode bm_Ledger_settleTimedOut 93 = .ok (.aload_n 0, 1) := by decide +kernel
theorem dd_Ledger_settleTimedOut_94 : decode bm_Ledger_settleTimedOut 94 = .ok (.iload_n 2, 1) := by decide +kernel
theorem dd_Ledger_settleTimedOut_95 : decode bm_Ledger_settleTimedOut 95 = .ok (.iload_n 3, 1) := by decide +kernel
theorem dd_Ledger_settleTimedOut_96 : decode bm_Ledger_settleTimedOut 96 = .ok (.iconst 3, 1) := by decide +kernel
theorem dd_Ledger_settleTimedOut_97 : decode bm_Ledger_settleTimedOut 97 = .ok (.invokevirtual 190, 3) := by decide +kernel
theorem dd_Ledger_settleTimedOut_100 : decode bm_Ledger_settleTimedOut 100 = .ok (.aload_n 0, 1) := by decide +kernel
theorem dd_Ledger_settleTimedOut_101 : decode bm_Ledger_settleTimedOut 101 = .ok (.iload_n 2, 1) := by decide +kernel
theorem dd_Ledger_settleTimedOut_102 : decode bm_Ledger_settleTimedOut 102 = .ok (.invokevirtual 172, 3) := by decide +kernel
theorem dd_Ledger_settleTimedOut_105 : decode bm_Ledger_settleTimedOut 105 = .ok (.ifCond .eq 9, 3) := by decide +kernel
theorem dd_Ledger_settleTimedOut_108 : decode bm_Ledger_settleTimedOut 108 = .ok (.aload_n 0, 1) := by decide +kernel
theorem dd_Ledger_settleTimedOut_109 : decode bm_Ledger_settleTimedOut 109 = .ok (.iload_n 2, 1) := by decide +kernel
theorem dd_Ledger_settleTimedOut_110 : decode bm_Ledger_settleTimedOut 110 = .ok (.iconst 4, 1) := by decide +kernel
theorem dd_Ledger_settleTimedOut_111 : decode bm_Ledger_settleTimedOut 111 = .ok (.invokevirtual 111, 3) := by decide +kernel
theorem dd_Ledger_settleTimedOut_114 : decode bm_Ledger_settleTimedOut 114 = .ok (.iconst 0, 1) := by decide +kernel
theorem dd_Ledger_settleTimedOut_115 : decode bm_Ledger_settleTimedOut 115 = .ok (.ireturn, 1) := by decide +kernel
end
section
theorem dd_Ledger_proveNotReceived_0 : decode bm_Ledger_proveNotReceived 0 = .ok (.aload_n 0, 1) := by decide +kernel
theorem dd_Ledger_proveNotReceived_1 : decode bm_Ledger_proveNotReceived 1 = .ok (.iload_n 2, 1) := by decide +kernel
theorem dd_Ledger_proveNotReceived_2 : decode bm_Ledger_proveNotReceived 2 = .ok (.invokevirtual 172, 3) := by decide +kernel
theorem dd_Ledger_proveNotReceived_5 : decode bm_Ledger_proveNotReceived 5 = .ok (.ifCond .ne 16, 3) := by decide +kernel
theorem dd_Ledger_proveNotReceived_8 : decode bm_Ledger_proveNotReceived 8 = .ok (.aload_n 0, 1) := by decide +kernel
theorem dd_Ledger_proveNotReceived_9 : decode bm_Ledger_proveNotReceived 9 = .ok (.aload_n 1, 1) := by decide +kernel
theorem dd_Ledger_proveNotReceived_10 : decode bm_Ledger_proveNotReceived 10 = .ok (.iload 4, 2) := by decide +kernel
theorem dd_Ledger_proveNotReceived_12 : decode bm_Ledger_proveNotReceived 12 = .ok (.iload_n 2, 1) := by decide +kernel
theorem dd_Ledger_proveNotReceived_13 : decode bm_Ledger_proveNotReceived 13 = .ok (.iload_n 3, 1) := by decide +kernel
theorem dd_Ledger_proveNotReceived_14 : decode bm_Ledger_proveNotReceived 14 = .ok (.invokestatic 178, 3) := by decide +kernel
theorem dd_Ledger_proveNotReceived_17 : decode bm_Ledger_proveNotReceived 17 = .ok (.invokevirtual 196, 3) := by decide +kernel
theorem dd_Ledger_proveNotReceived_20 : decode bm_Ledger_proveNotReceived 20 = .ok (.ireturn, 1) := by decide +kernel
theorem dd_Ledger_proveNotReceived_21 : decode bm_Ledger_proveNotReceived 21 = .ok (.aload_n 1, 1) := by decide +kernel
theorem dd_Ledger_proveNotReceived_22 : decode bm_Ledger_proveNotReceived 22 = .ok (.iload_n 2, 1) := by decide +kernel
theorem dd_Ledger_proveNotReceived_23 : decode bm_Ledger_proveNotReceived 23 = .ok (.invokevirtual 175, 3) := by decide +kernel
theorem dd_Ledger_proveNotReceived_26 : decode bm_Ledger_proveNotReceived 26 = .ok (.istore 5, 2) := by decide +kernel
theorem dd_Ledger_proveNotReceived_28 : decode bm_Ledger_proveNotReceived 28 = .ok (.iload 5, 2) := by decide +kernel
theorem dd_Ledger_proveNotReceived_30 : decode bm_Ledger_proveNotReceived 30 = .ok (.iload_n 3, 1) := by decide +kernel
theorem dd_Ledger_proveNotReceived_31 : decode bm_Ledger_proveNotReceived 31 = .ok (.if_icmp .le 8, 3) := by decide +kernel
theorem dd_Ledger_proveNotReceived_34 : decode bm_Ledger_proveNotReceived 34 = .ok (.bipush (-5), 2) := by decide +kernel
theorem dd_Ledger_proveNotReceived_36 : decode bm_Ledger_proveNotReceived 36 = .ok (.goto 16, 3) := by decide +kernel
theorem dd_Ledger_proveNotReceived_39 : decode bm_Ledger_proveNotReceived 39 = .ok (.aload_n 0, 1) := by decide +kernel
theorem dd_Ledger_proveNotReceived_40 : decode bm_Ledger_proveNotReceived 40 = .ok (.aload_n 1, 1) := by decide +kernel
theorem dd_Ledger_proveNotReceived_41 : decode bm_Ledger_proveNotReceived 41 = .ok (.iload 4, 2) := by decide +kernel
theorem dd_Ledger_proveNotReceived_43 : decode bm_Ledger_proveNotReceived 43 = .ok (.iload_n 2, 1) := by decide +kernel
theorem dd_Ledger_proveNotReceived_44 : decode bm_Ledger_proveNotReceived 44 = .ok (.invokestatic 73, 3) := by decide +kernel
theorem dd_Ledger_proveNotReceived_47 : decode bm_Ledger_proveNotReceived 47 = .ok (.iload 5, 2) := by decide +kernel
theorem dd_Ledger_proveNotReceived_49 : decode bm_Ledger_proveNotReceived 49 = .ok (.invokevirtual 92, 3) := by decide +kernel
theorem dd_Ledger_proveNotReceived_52 : decode bm_Ledger_proveNotReceived 52 = .ok (.ireturn, 1) := by decide +kernel
theorem dd_Ledger_settle_0 : decode bm_Ledger_settle 0 = .ok (.aload_n 0, 1) := by decide +kernel
theorem dd_Ledger_settle_1 : decode bm_Ledger_settle 1 = .ok (.getfield 42, 3) := by decide +kernel
theorem dd_Ledger_settle_4 : decode bm_Ledger_settle 4 = .ok (.iload_n 1, 1) := by decide +kernel
theorem dd_Ledger_settle_5 : decode bm_Ledger_settle 5 = .ok (.aaload, 1) := by decide +kernel
theorem dd_Ledger_settle_6 : decode bm_Ledger_settle 6 = .ok (.getfield 121, 3) := by decide +kernel
theorem dd_Ledger_settle_9 : decode bm_Ledger_settle 9 = .ok (.iload_n 2, 1) := by decide +kernel
theorem dd_Ledger_settle_10 : decode bm_Ledger_settle 10 = .ok (.iconst 1, 1) := by decide +kernel
theorem dd_Ledger_settle_11 : decode bm_Ledger_settle 11 = .ok (.isub, 1) := by decide +kernel
theorem dd_Ledger_settle_12 : decode bm_Ledger_settle 12 = .ok (.aaload, 1) := by decide +kernel
theorem dd_Ledger_settle_13 : decode bm_Ledger_settle 13 = .ok (.astore 4, 2) := by decide +kernel
theorem dd_Ledger_settle_15 : decode bm_Ledger_settle 15 = .ok (.aload 4, 2) := by decide +kernel
theorem dd_Ledger_settle_17 : decode bm_Ledger_settle 17 = .ok (.iload_n 3, 1) := by decide +kernel
theorem dd_Ledger_settle_18 : decode bm_Ledger_settle 18 = .ok (.putfield 187, 3) := by decide +kernel
theorem dd_Ledger_settle_21 : decode bm_Ledger_settle 21 = .ok (.aload_n 0, 1) := by decide +kernel
theorem dd_Ledger_settle_22 : decode bm_Ledger_settle 22 = .ok (.getfield 12, 3) := by decide +kernel
theorem dd_Ledger_settle_25 : decode bm_Ledger_settle 25 = .ok (.iload_n 1, 1) := by decide +kernel
theorem dd_Ledger_settle_26 : decode bm_Ledger_settle 26 = .ok (.iload_n 2, 1) := by decide +kernel
theorem dd_Ledger_settle_27 : decode bm_Ledger_settle 27 = .ok (.invokestatic 155, 3) := by decide +kernel
theorem dd_Ledger_settle_30 : decode bm_Ledger_settle 30 = .ok (.invokevirtual 200, 3) := by decide +kernel
theorem dd_Ledger_settle_33 : decode bm_Ledger_settle 33 = .ok (.iload_n 3, 1) := by decide +kernel
theorem dd_Ledger_settle_34 : decode bm_Ledger_settle 34 = .ok (.iconst 1, 1) := by decide +kernel
theorem dd_Ledger_settle_35 : decode bm_Ledger_settle 35 = .ok (.if_icmp .eq 13, 3) := by decide +kernel
theorem dd_Ledger_settle_38 : decode bm_Ledger_settle 38 = .ok (.aload_n 0, 1) := by decide +kernel
theorem dd_Ledger_settle_39 : decode bm_Ledger_settle 39 = .ok (.getfield 36, 3) := by decide +kernel
theorem dd_Ledger_settle_42 : decode bm_Ledger_settle 42 = .ok (.aload 4, 2) := by decide +kernel
theorem dd_Ledger_settle_44 : decode bm_Ledger_settle 44 = .ok (.iload_n 1, 1) := by decide +kernel
theorem dd_Ledger_settle_45 : decode bm_Ledger_settle 45 = .ok (.invokevirtual 204, 3) := by decide +kernel
theorem dd_Ledger_settle_48 : decode bm_Ledger_settle 48 = .ok (.return_, 1) := by decide +kernel
theorem dd_Store_ctor_0 : decode bm_Store_ctor 0 = .ok (.aload_n 0, 1) := by decide +kernel
theorem dd_Store_ctor_1 : decode bm_Store_ctor 1 = .ok (.invokespecial 5, 3) := by decide +kernel
theorem dd_Store_ctor_4 : decode bm_Store_ctor 4 = .ok (.aload_n 0, 1) := by decide +kernel
theorem dd_Store_ctor_5 : decode bm_Store_ctor 5 = .ok (.bipush 114, 2) := by decide +kernel
theorem dd_Store_ctor_7 : decode bm_Store_ctor 7 = .ok (.newarray .int, 2) := by decide +kernel
theorem dd_Store_ctor_9 : decode bm_Store_ctor 9 = .ok (.putfield 11, 3) := by decide +kernel
theorem dd_Store_ctor_12 : decode bm_Store_ctor 12 = .ok (.aload_n 0, 1) := by decide +kernel
theorem dd_Store_ctor_13 : decode bm_Store_ctor 13 = .ok (.bipush 114, 2) := by decide +kernel
theorem dd_Store_ctor_15 : decode bm_Store_ctor 15 = .ok (.newarray .boolean, 2) := by decide +kernel
theorem dd_Store_ctor_17 : decode bm_Store_ctor 17 = .ok (.putfield 15, 3) := by decide +kernel
theorem dd_Store_ctor_20 : decode bm_Store_ctor 20 = .ok (.return_, 1) := by decide +kernel
theorem dd_Store_endSlot_0 : decode bm_Store_endSlot 0 = .ok (.iload_n 0, 1) := by decide +kernel
theorem dd_Store_endSlot_1 : decode bm_Store_endSlot 1 = .ok (.ireturn, 1) := by decide +kernel
theorem dd_Store_nextSlot_0 : decode bm_Store_nextSlot 0 = .ok (.iconst 3, 1) := by decide +kernel
theorem dd_Store_nextSlot_1 : decode bm_Store_nextSlot 1 = .ok (.iload_n 0, 1) := by decide +kernel
theorem dd_Store_nextSlot_2 : decode bm_Store_nextSlot 2 = .ok (.iadd, 1) := by decide +kernel
theorem dd_Store_nextSlot_3 : decode bm_Store_nextSlot 3 = .ok (.ireturn, 1) := by decide +kernel
theorem dd_Store_printSlot_0 : decode bm_Store_printSlot 0 = .ok (.bipush 6, 2) := by decide +kernel
theorem dd_Store_printSlot_2 : decode bm_Store_printSlot 2 = .ok (.bipush 12, 2) := by decide +kernel
theorem dd_Store_printSlot_4 : decode bm_Store_printSlot 4 = .ok (.iload_n 0, 1) := by decide +kernel
theorem dd_Store_printSlot_5 : decode bm_Store_printSlot 5 = .ok (.imul, 1) := by decide +kernel
theorem dd_Store_printSlot_6 : decode bm_Store_printSlot 6 = .ok (.iadd, 1) := by decide +kernel
theorem dd_Store_printSlot_7 : decode bm_Store_printSlot 7 = .ok (.iload_n 1, 1) := by decide +kernel
theorem dd_Store_printSlot_8 : decode bm_Store_printSlot 8 = .ok (.iadd, 1) := by decide +kernel
theorem dd_Store_printSlot_9 : decode bm_Store_printSlot 9 = .ok (.iconst 1, 1) := by decide +kernel
theorem dd_Store_printSlot_10 : decode bm_Store_printSlot 10 = .ok (.isub, 1) := by decide +kernel
theorem dd_Store_printSlot_11 : decode bm_Store_printSlot 11 = .ok (.ireturn, 1) := by decide +kernel
theorem dd_Store_receiptSlot_0 : decode bm_Store_receiptSlot 0 = .ok (.bipush 42, 2) := by decide +kernel
theorem dd_Store_receiptSlot_2 : decode bm_Store_receiptSlot 2 = .ok (.bipush 12, 2) := by decide +kernel
theorem dd_Store_receiptSlot_4 : decode bm_Store_receiptSlot 4 = .ok (.iload_n 0, 1) := by decide +kernel
theorem dd_Store_receiptSlot_5 : decode bm_Store_receiptSlot 5 = .ok (.imul, 1) := by decide +kernel
theorem dd_Store_receiptSlot_6 : decode bm_Store_receiptSlot 6 = .ok (.iadd, 1) := by decide +kernel
theorem dd_Store_receiptSlot_7 : decode bm_Store_receiptSlot 7 = .ok (.iload_n 1, 1) := by decide +kernel
theorem dd_Store_receiptSlot_8 : decode bm_Store_receiptSlot 8 = .ok (.iadd, 1) := by decide +kernel
theorem dd_Store_receiptSlot_9 : decode bm_Store_receiptSlot 9 = .ok (.iconst 1, 1) := by decide +kernel
theorem dd_Store_receiptSlot_10 : decode bm_Store_receiptSlot 10 = .ok (.isub, 1) := by decide +kernel
theorem dd_Store_receiptSlot_11 : decode bm_Store_receiptSlot 11 = .ok (.ireturn, 1) := by decide +kernel
theorem dd_Store_answerSlot_0 : decode bm_Store_answerSlot 0 = .ok (.bipush 78, 2) := by decide +kernel
theorem dd_Store_answerSlot_2 : decode bm_Store_answerSlot 2 = .ok (.bipush 12, 2) := by decide +kernel
theorem dd_Store_answerSlot_4 : decode bm_Store_answerSlot 4 = .ok (.iload_n 0, 1) := by decide +kernel
theorem dd_Store_answerSlot_5 : decode bm_Store_answerSlot 5 = .ok (.imul, 1) := by decide +kernel
theorem dd_Store_answerSlot_6 : decode bm_Store_answerSlot 6 = .ok (.iadd, 1) := by decide +kernel
theorem dd_Store_answerSlot_7 : decode bm_Store_answerSlot 7 = .ok (.iload_n 1, 1) := by decide +kernel
theorem dd_Store_answerSlot_8 : decode bm_Store_answerSlot 8 = .ok (.iadd, 1) := by decide +kernel
theorem dd_Store_answerSlot_9 : decode bm_Store_answerSlot 9 = .ok (.iconst 1, 1) := by decide +kernel
theorem dd_Store_answerSlot_10 : decode bm_Store_answerSlot 10 = .ok (.isub, 1) := by decide +kernel
theorem dd_Store_answerSlot_11 : decode bm_Store_answerSlot 11 = .ok (.ireturn, 1) := by decide +kernel
theorem dd_Store_keyOf_0 : decode bm_Store_keyOf 0 = .ok (.iload_n 0, 1) := by decide +kernel
theorem dd_Store_keyOf_1 : decode bm_Store_keyOf 1 = .ok (.iconst 3, 1) := by decide +kernel
theorem dd_Store_keyOf_2 : decode bm_Store_keyOf 2 = .ok (.if_icmp .ge 9, 3) := by decide +kernel
theorem dd_Store_keyOf_5 : decode bm_Store_keyOf 5 = .ok (.sipush 4096, 3) := by decide +kernel
theorem dd_Store_keyOf_8 : decode bm_Store_keyOf 8 = .ok (.iload_n 0, 1) := by decide +kernel
theorem dd_Store_keyOf_9 : decode bm_Store_keyOf 9 = .ok (.iadd, 1) := by decide +kernel
theorem dd_Store_keyOf_10 : decode bm_Store_keyOf 10 = .ok (.ireturn, 1) := by decide +kernel
theorem dd_Store_keyOf_11 : decode bm_Store_keyOf 11 = .ok (.iload_n 0, 1) := by decide +kernel
theorem dd_Store_keyOf_12 : decode bm_Store_keyOf 12 = .ok (.bipush 6, 2) := by decide +kernel
theorem dd_Store_keyOf_14 : decode bm_Store_keyOf 14 = .ok (.if_icmp .ge 11, 3) := by decide +kernel
theorem dd_Store_keyOf_17 : decode bm_Store_keyOf 17 = .ok (.sipush 8192, 3) := by decide +kernel
theorem dd_Store_keyOf_20 : decode bm_Store_keyOf 20 = .ok (.iload_n 0, 1) := by decide +kernel
theorem dd_Store_keyOf_21 : decode bm_Store_keyOf 21 = .ok (.iadd, 1) := by decide +kernel
theorem dd_Store_keyOf_22 : decode bm_Store_keyOf 22 = .ok (.iconst 3, 1) := by decide +kernel
theorem dd_Store_keyOf_23 : decode bm_Store_keyOf 23 = .ok (.isub, 1) := by decide +kernel
theorem dd_Store_keyOf_24 : decode bm_Store_keyOf 24 = .ok (.ireturn, 1) := by decide +kernel
theorem dd_Store_keyOf_25 : decode bm_Store_keyOf 25 = .ok (.iload_n 0, 1) := by decide +kernel
theorem dd_Store_keyOf_26 : decode bm_Store_keyOf 26 = .ok (.bipush 6, 2) := by decide +kernel
theorem dd_Store_keyOf_28 : decode bm_Store_keyOf 28 = .ok (.isub, 1) := by decide +kernel
theorem dd_Store_keyOf_29 : decode bm_Store_keyOf 29 = .ok (.bipush 36, 2) := by decide +kernel
theorem dd_Store_keyOf_31 : decode bm_Store_keyOf 31 = .ok (.idiv, 1) := by decide +kernel
theorem dd_Store_keyOf_32 : decode bm_Store_keyOf 32 = .ok (.istore_n 1, 1) := by decide +kernel
theorem dd_Store_keyOf_33 : decode bm_Store_keyOf 33 = .ok (.iload_n 0, 1) := by decide +kernel
theorem dd_Store_keyOf_34 : decode bm_Store_keyOf 34 = .ok (.bipush 6, 2) := by decide +kernel
theorem dd_Store_keyOf_36 : decode bm_Store_keyOf 36 = .ok (.isub, 1) := by decide +kernel
theorem dd_Store_keyOf_37 : decode bm_Store_keyOf 37 = .ok (.bipush 36, 2) := by decide +kernel
theorem dd_Store_keyOf_39 : decode bm_Store_keyOf 39 = .ok (.irem, 1) := by decide +kernel
theorem dd_Store_keyOf_40 : decode bm_Store_keyOf 40 = .ok (.istore_n 2, 1) := by decide +kernel
theorem dd_Store_keyOf_41 : decode bm_Store_keyOf 41 = .ok (.iload_n 2, 1) := by decide +kernel
theorem dd_Store_keyOf_42 : decode bm_Store_keyOf 42 = .ok (.bipush 12, 2) := by decide +kernel
theorem dd_Store_keyOf_44 : decode bm_Store_keyOf 44 = .ok (.idiv, 1) := by decide +kernel
theorem dd_Store_keyOf_45 : decode bm_Store_keyOf 45 = .ok (.istore_n 3, 1) := by decide +kernel
theorem dd_Store_keyOf_46 : decode bm_Store_keyOf 46 = .ok (.iload_n 2, 1) := by decide +kernel
theorem dd_Store_keyOf_47 : decode bm_Store_keyOf 47 = .ok (.bipush 12, 2) := by decide +kernel
theorem dd_Store_keyOf_49 : decode bm_Store_keyOf 49 = .ok (.irem, 1) := by decide +kernel
theorem dd_Store_keyOf_50 : decode bm_Store_keyOf 50 = .ok (.iconst 1, 1) := by decide +kernel
theorem dd_Store_keyOf_51 : decode bm_Store_keyOf 51 = .ok (.iadd, 1) := by decide +kernel
theorem dd_Store_keyOf_52 : decode bm_Store_keyOf 52 = .ok (.istore 4, 2) := by decide +kernel
theorem dd_Store_keyOf_54 : decode bm_Store_keyOf 54 = .ok (.sipush 12288, 3) := by decide +kernel
theorem dd_Store_keyOf_57 : decode bm_Store_keyOf 57 = .ok (.sipush 4096, 3) := by decide +kernel
theorem dd_Store_keyOf_60 : decode bm_Store_keyOf 60 = .ok (.iload_n 1, 1) := by decide +kernel
theorem dd_Store_keyOf_61 : decode bm_Store_keyOf 61 = .ok (.imul, 1) := by decide +kernel
theorem dd_Store_keyOf_62 : decode bm_Store_keyOf 62 = .ok (.iadd, 1) := by decide +kernel
theorem dd_Store_keyOf_63 : decode bm_Store_keyOf 63 = .ok (.bipush 64, 2) := by decide +kernel
theorem dd_Store_keyOf_65 : decode bm_Store_keyOf 65 = .ok (.iload_n 3, 1) := by decide +kernel
theorem dd_Store_keyOf_66 : decode bm_Store_keyOf 66 = .ok (.imul, 1) := by decide +kernel
theorem dd_Store_keyOf_67 : decode bm_Store_keyOf 67 = .ok (.iadd, 1) := by decide +kernel
theorem dd_Store_keyOf_68 : decode bm_Store_keyOf 68 = .ok (.iload 4, 2) := by decide +kernel
theorem dd_Store_keyOf_70 : decode bm_Store_keyOf 70 = .ok (.iadd, 1) := by decide +kernel
theorem dd_Store_keyOf_71 : decode bm_Store_keyOf 71 = .ok (.ireturn, 1) := by decide +kernel
theorem dd_Store_put_0 : decode bm_Store_put 0 = .ok (.aload_n 0, 1) := by decide +kernel
theorem dd_Store_put_1 : decode bm_Store_put 1 = .ok (.getfield 11, 3) := by decide +kernel
theorem dd_Store_put_4 : decode bm_Store_put 4 = .ok (.iload_n 1, 1) := by decide +kernel
theorem dd_Store_put_5 : decode bm_Store_put 5 = .ok (.iload_n 2, 1) := by decide +kernel
theorem dd_Store_put_6 : decode bm_Store_put 6 = .ok (.iastore, 1) := by decide +kernel
theorem dd_Store_put_7 : decode bm_Store_put 7 = .ok (.aload_n 0, 1) := by decide +kernel
theorem dd_Store_put_8 : decode bm_Store_put 8 = .ok (.getfield 15, 3) := by decide +kernel
theorem dd_Store_put_11 : decode bm_Store_put 11 = .ok (.iload_n 1, 1) := by decide +kernel
theorem dd_Store_put_12 : decode bm_Store_put 12 = .ok (.iconst 1, 1) := by decide +kernel
theorem dd_Store_put_13 : decode bm_Store_put 13 = .ok (.bastore, 1) := by decide +kernel
theorem dd_Store_put_14 : decode bm_Store_put 14 = .ok (.return_, 1) := by decide +kernel
theorem dd_Store_drop_0 : decode bm_Store_drop 0 = .ok (.aload_n 0, 1) := by decide +kernel
theorem dd_Store_drop_1 : decode bm_Store_drop 1 = .ok (.getfield 11, 3) := by decide +kernel
theorem dd_Store_drop_4 : decode bm_Store_drop 4 = .ok (.iload_n 1, 1) := by decide +kernel
theorem dd_Store_drop_5 : decode bm_Store_drop 5 = .ok (.iconst 0, 1) := by decide +kernel
theorem dd_Store_drop_6 : decode bm_Store_drop 6 = .ok (.iastore, 1) := by decide +kernel
theorem dd_Store_drop_7 : decode bm_Store_drop 7 = .ok (.aload_n 0, 1) := by decide +kernel
theorem dd_Store_drop_8 : decode bm_Store_drop 8 = .ok (.getfield 15, 3) := by decide +kernel
theorem dd_Store_drop_11 : decode bm_Store_drop 11 = .ok (.iload_n 1, 1) := by decide +kernel
theorem dd_Store_drop_12 : decode bm_Store_drop 12 = .ok (.iconst 0, 1) := by decide +kernel
theorem dd_Store_drop_13 : decode bm_Store_drop 13 = .ok (.bastore, 1) := by decide +kernel
theorem dd_Store_drop_14 : decode bm_Store_drop 14 = .ok (.return_, 1) := by decide +kernel
theorem dd_Store_has_0 : decode bm_Store_has 0 = .ok (.aload_n 0, 1) := by decide +kernel
theorem dd_Store_has_1 : decode bm_Store_has 1 = .ok (.getfield 15, 3) := by decide +kernel
theorem dd_Store_has_4 : decode bm_Store_has 4 = .ok (.iload_n 1, 1) := by decide +kernel
theorem dd_Store_has_5 : decode bm_Store_has 5 = .ok (.baload, 1) := by decide +kernel
theorem dd_Store_has_6 : decode bm_Store_has 6 = .ok (.ireturn, 1) := by decide +kernel
theorem dd_Store_valueIn_0 : decode bm_Store_valueIn 0 = .ok (.aload_n 0, 1) := by decide +kernel
theorem dd_Store_valueIn_1 : decode bm_Store_valueIn 1 = .ok (.getfield 11, 3) := by decide +kernel
theorem dd_Store_valueIn_4 : decode bm_Store_valueIn 4 = .ok (.iload_n 1, 1) := by decide +kernel
theorem dd_Store_valueIn_5 : decode bm_Store_valueIn 5 = .ok (.iaload, 1) := by decide +kernel
theorem dd_Store_valueIn_6 : decode bm_Store_valueIn 6 = .ok (.ireturn, 1) := by decide +kernel
theorem dd_Store_copyFrom_0 : decode bm_Store_copyFrom 0 = .ok (.iconst 0, 1) := by decide +kernel
theorem dd_Store_copyFrom_1 : decode bm_Store_copyFrom 1 = .ok (.istore_n 2, 1) := by decide +kernel
theorem dd_Store_copyFrom_2 : decode bm_Store_copyFrom 2 = .ok (.iload_n 2, 1) := by decide +kernel
theorem dd_Store_copyFrom_3 : decode bm_Store_copyFrom 3 = .ok (.bipush 114, 2) := by decide +kernel
theorem dd_Store_copyFrom_5 : decode bm_Store_copyFrom 5 = .ok (.if_icmp .ge 33, 3) := by decide +kernel
theorem dd_Store_copyFrom_8 : decode bm_Store_copyFrom 8 = .ok (.aload_n 0, 1) := by decide +kernel
theorem dd_Store_copyFrom_9 : decode bm_Store_copyFrom 9 = .ok (.getfield 11, 3) := by decide +kernel
theorem dd_Store_copyFrom_12 : decode bm_Store_copyFrom 12 = .ok (.iload_n 2, 1) := by decide +kernel
theorem dd_Store_copyFrom_13 : decode bm_Store_copyFrom 13 = .ok (.aload_n 1, 1) := by decide +kernel
theorem dd_Store_copyFrom_14 : decode bm_Store_copyFrom 14 = .ok (.getfield 11, 3) := by decide +kernel
theorem dd_Store_copyFrom_17 : decode bm_Store_copyFrom 17 = .ok (.iload_n 2, 1) := by decide +kernel
theorem dd_Store_copyFrom_18 : decode bm_Store_copyFrom 18 = .ok (.iaload, 1) := by decide +kernel
theorem dd_Store_copyFrom_19 : decode bm_Store_copyFrom 19 = .ok (.iastore, 1) := by decide +kernel
theorem dd_Store_copyFrom_20 : decode bm_Store_copyFrom 20 = .ok (.aload_n 0, 1) := by decide +kernel
theorem dd_Store_copyFrom_21 : decode bm_Store_copyFrom 21 = .ok (.getfield 15, 3) := by decide +kernel
theorem dd_Store_copyFrom_24 : decode bm_Store_copyFrom 24 = .ok (.iload_n 2, 1) := by decide +kernel
theorem dd_Store_copyFrom_25 : decode bm_Store_copyFrom 25 = .ok (.aload_n 1, 1) := by decide +kernel
theorem dd_Store_copyFrom_26 : decode bm_Store_copyFrom 26 = .ok (.getfield 15, 3) := by decide +kernel
theorem dd_Store_copyFrom_29 : decode bm_Store_copyFrom 29 = .ok (.iload_n 2, 1) := by decide +kernel
theorem dd_Store_copyFrom_30 : decode bm_Store_copyFrom 30 = .ok (.baload, 1) := by decide +kernel
theorem dd_Store_copyFrom_31 : decode bm_Store_copyFrom 31 = .ok (.bastore, 1) := by decide +kernel
theorem dd_Store_copyFrom_32 : decode bm_Store_copyFrom 32 = .ok (.iinc 2 1, 3) := by decide +kernel
theorem dd_Store_copyFrom_35 : decode bm_Store_copyFrom 35 = .ok (.goto (-33), 3) := by decide +kernel
theorem dd_Store_copyFrom_38 : decode bm_Store_copyFrom 38 = .ok (.return_, 1) := by decide +kernel
theorem dd_Store_rootBy_0 : decode bm_Store_rootBy 0 = .ok (.iconst 0, 1) := by decide +kernel
theorem dd_Store_rootBy_1 : decode bm_Store_rootBy 1 = .ok (.istore_n 2, 1) := by decide +kernel
theorem dd_Store_rootBy_2 : decode bm_Store_rootBy 2 = .ok (.iconst 0, 1) := by decide +kernel
theorem dd_Store_rootBy_3 : decode bm_Store_rootBy 3 = .ok (.istore_n 3, 1) := by decide +kernel
theorem dd_Store_rootBy_4 : decode bm_Store_rootBy 4 = .ok (.iload_n 3, 1) := by decide +kernel
theorem dd_Store_rootBy_5 : decode bm_Store_rootBy 5 = .ok (.bipush 114, 2) := by decide +kernel
theorem dd_Store_rootBy_7 : decode bm_Store_rootBy 7 = .ok (.if_icmp .ge 41, 3) := by decide +kernel
theorem dd_Store_rootBy_10 : decode bm_Store_rootBy 10 = .ok (.aload_n 0, 1) := by decide +kernel
theorem dd_Store_rootBy_11 : decode bm_Store_rootBy 11 = .ok (.getfield 15, 3) := by decide +kernel
theorem dd_Store_rootBy_14 : decode bm_Store_rootBy 14 = .ok (.iload_n 3, 1) := by decide +kernel
theorem dd_Store_rootBy_15 : decode bm_Store_rootBy 15 = .ok (.baload, 1) := by decide +kernel
theorem dd_Store_rootBy_16 : decode bm_Store_rootBy 16 = .ok (.ifCond .eq 26, 3) := by decide +kernel
theorem dd_Store_rootBy_19 : decode bm_Store_rootBy 19 = .ok (.aload_n 1, 1) := by decide +kernel
theorem dd_Store_rootBy_20 : decode bm_Store_rootBy 20 = .ok (.iload_n 2, 1) := by decide +kernel
theorem dd_Store_rootBy_21 : decode bm_Store_rootBy 21 = .ok (.iconst 1, 1) := by decide +kernel
theorem dd_Store_rootBy_22 : decode bm_Store_rootBy 22 = .ok (.iload_n 3, 1) := by decide +kernel
theorem dd_Store_rootBy_23 : decode bm_Store_rootBy 23 = .ok (.invokestatic 19, 3) := by decide +kernel
theorem dd_Store_rootBy_26 : decode bm_Store_rootBy 26 = .ok (.invokestatic 23, 3) := by decide +kernel
theorem dd_Store_rootBy_29 : decode bm_Store_rootBy 29 = .ok (.aload_n 0, 1) := by decide +kernel
theorem dd_Store_rootBy_30 : decode bm_Store_rootBy 30 = .ok (.getfield 11, 3) := by decide +kernel
theorem dd_Store_rootBy_33 : decode bm_Store_rootBy 33 = .ok (.iload_n 3, 1) := by decide +kernel
theorem dd_Store_rootBy_34 : decode bm_Store_rootBy 34 = .ok (.iaload, 1) := by decide +kernel
theorem dd_Store_rootBy_35 : decode bm_Store_rootBy 35 = .ok (.invokestatic 23, 3) := by decide +kernel
theorem dd_Store_rootBy_38 : decode bm_Store_rootBy 38 = .ok (.iastore, 1) := by decide +kernel
theorem dd_Store_rootBy_39 : decode bm_Store_rootBy 39 = .ok (.iinc 2 1, 3) := by decide +kernel
theorem dd_Store_rootBy_42 : decode bm_Store_rootBy 42 = .ok (.iinc 3 1, 3) := by decide +kernel
theorem dd_Store_rootBy_45 : decode bm_Store_rootBy 45 = .ok (.goto (-41), 3) := by decide +kernel
theorem dd_Store_rootBy_48 : decode bm_Store_rootBy 48 = .ok (.iload_n 2, 1) := by decide +kernel
theorem dd_Store_rootBy_49 : decode bm_Store_rootBy 49 = .ok (.ifCond .ne 5, 3) := by decide +kernel
theorem dd_Store_rootBy_52 : decode bm_Store_rootBy 52 = .ok (.iconst 0, 1) := by decide +kernel
theorem dd_Store_rootBy_53 : decode bm_Store_rootBy 53 = .ok (.ireturn, 1) := by decide +kernel
theorem dd_Store_rootBy_54 : decode bm_Store_rootBy 54 = .ok (.iconst 1, 1) := by decide +kernel
theorem dd_Store_rootBy_55 : decode bm_Store_rootBy 55 = .ok (.istore_n 3, 1) := by decide +kernel
theorem dd_Store_rootBy_56 : decode bm_Store_rootBy 56 = .ok (.iload_n 3, 1) := by decide +kernel
theorem dd_Store_rootBy_57 : decode bm_Store_rootBy 57 = .ok (.iload_n 2, 1) := by decide +kernel
theorem dd_Store_rootBy_58 : decode bm_Store_rootBy 58 = .ok (.if_icmp .ge 53, 3) := by decide +kernel
theorem dd_Store_rootBy_61 : decode bm_Store_rootBy 61 = .ok (.iconst 0, 1) := by decide +kernel
theorem dd_Store_rootBy_62 : decode bm_Store_rootBy 62 = .ok (.istore 4, 2) := by decide +kernel
theorem dd_Store_rootBy_64 : decode bm_Store_rootBy 64 = .ok (.iload 4, 2) := by decide +kernel
theorem dd_Store_rootBy_66 : decode bm_Store_rootBy 66 = .ok (.iload_n 3, 1) := by decide +kernel
theorem dd_Store_rootBy_67 : decode bm_Store_rootBy 67 = .ok (.iadd, 1) := by decide +kernel
theorem dd_Store_rootBy_68 : decode bm_Store_rootBy 68 = .ok (.iload_n 2, 1) := by decide +kernel
theorem dd_Store_rootBy_69 : decode bm_Store_rootBy 69 = .ok (.if_icmp .ge 35, 3) := by decide +kernel
theorem dd_Store_rootBy_72 : decode bm_Store_rootBy 72 = .ok (.aload_n 1, 1) := by decide +kernel
theorem dd_Store_rootBy_73 : decode bm_Store_rootBy 73 = .ok (.iload 4, 2) := by decide +kernel
theorem dd_Store_rootBy_75 : decode bm_Store_rootBy 75 = .ok (.iconst 2, 1) := by decide +kernel
theorem dd_Store_rootBy_76 : decode bm_Store_rootBy 76 = .ok (.aload_n 1, 1) := by decide +kernel
theorem dd_Store_rootBy_77 : decode bm_Store_rootBy 77 = .ok (.iload 4, 2) := by decide +kernel
theorem dd_Store_rootBy_79 : decode bm_Store_rootBy 79 = .ok (.iaload, 1) := by decide +kernel
theorem dd_Store_rootBy_80 : decode bm_Store_rootBy 80 = .ok (.invokestatic 23, 3) := by decide +kernel
theorem dd_Store_rootBy_83 : decode bm_Store_rootBy 83 = .ok (.aload_n 1, 1) := by decide +kernel
theorem dd_Store_rootBy_84 : decode bm_Store_rootBy 84 = .ok (.iload 4, 2) := by decide +kernel
theorem dd_Store_rootBy_86 : decode bm_Store_rootBy 86 = .ok (.iload_n 3, 1) := by decide +kernel
theorem dd_Store_rootBy_87 : decode bm_Store_rootBy 87 = .ok (.iadd, 1) := by decide +kernel
theorem dd_Store_rootBy_88 : decode bm_Store_rootBy 88 = .ok (.iaload, 1) := by decide +kernel
theorem dd_Store_rootBy_89 : decode bm_Store_rootBy 89 = .ok (.invokestatic 23, 3) := by decide +kernel
theorem dd_Store_rootBy_92 : decode bm_Store_rootBy 92 = .ok (.iastore, 1) := by decide +kernel
theorem dd_Store_rootBy_93 : decode bm_Store_rootBy 93 = .ok (.iload 4, 2) := by decide +kernel
theorem dd_Store_rootBy_95 : decode bm_Store_rootBy 95 = .ok (.iconst 2, 1) := by decide +kernel
theorem dd_Store_rootBy_96 : decode bm_Store_rootBy 96 = .ok (.iload_n 3, 1) := by decide +kernel
theorem dd_Store_rootBy_97 : decode bm_Store_rootBy 97 = .ok (.imul, 1) := by decide +kernel
theorem dd_Store_rootBy_98 : decode bm_Store_rootBy 98 = .ok (.iadd, 1) := by decide +kernel
theorem dd_Store_rootBy_99 : decode bm_Store_rootBy 99 = .ok (.istore 4, 2) := by decide +kernel
theorem dd_Store_rootBy_101 : decode bm_Store_rootBy 101 = .ok (.goto (-37), 3) := by decide +kernel
theorem dd_Store_rootBy_104 : decode bm_Store_rootBy 104 = .ok (.iload_n 3, 1) := by decide +kernel
theorem dd_Store_rootBy_105 : decode bm_Store_rootBy 105 = .ok (.iconst 2, 1) := by decide +kernel
theorem dd_Store_rootBy_106 : decode bm_Store_rootBy 106 = .ok (.imul, 1) := by decide +kernel
theorem dd_Store_rootBy_107 : decode bm_Store_rootBy 107 = .ok (.istore_n 3, 1) := by decide +kernel
theorem dd_Store_rootBy_108 : decode bm_Store_rootBy 108 = .ok (.goto (-52), 3) := by decide +kernel
theorem dd_Store_rootBy_111 : decode bm_Store_rootBy 111 = .ok (.aload_n 1, 1) := by decide +kernel
theorem dd_Store_rootBy_112 : decode bm_Store_rootBy 112 = .ok (.iconst 0, 1) := by decide +kernel
theorem dd_Store_rootBy_113 : decode bm_Store_rootBy 113 = .ok (.iaload, 1) := by decide +kernel
theorem dd_Store_rootBy_114 : decode bm_Store_rootBy 114 = .ok (.ireturn, 1) := by decide +kernel
theorem dd_Client_ctor_0 : decode bm_Client_ctor 0 = .ok (.aload_n 0, 1) := by decide +kernel
theorem dd_Client_ctor_1 : decode bm_Client_ctor 1 = .ok (.invokespecial 3, 3) := by decide +kernel
theorem dd_Client_ctor_4 : decode bm_Client_ctor 4 = .ok (.aload_n 0, 1) := by decide +kernel
theorem dd_Client_ctor_5 : decode bm_Client_ctor 5 = .ok (.sipush 513, 3) := by decide +kernel
theorem dd_Client_ctor_8 : decode bm_Client_ctor 8 = .ok (.newarray .boolean, 2) := by decide +kernel
theorem dd_Client_ctor_10 : decode bm_Client_ctor 10 = .ok (.putfield 9, 3) := by decide +kernel
theorem dd_Client_ctor_13 : decode bm_Client_ctor 13 = .ok (.return_, 1) := by decide +kernel
theorem dd_Client_learn_0 : decode bm_Client_learn 0 = .ok (.iload_n 1, 1) := by decide +kernel
theorem dd_Client_learn_1 : decode bm_Client_learn 1 = .ok (.iconst 1, 1) := by decide +kernel
theorem dd_Client_learn_2 : decode bm_Client_learn 2 = .ok (.if_icmp .lt 10, 3) := by decide +kernel
theorem dd_Client_learn_5 : decode bm_Client_learn 5 = .ok (.iload_n 1, 1) := by decide +kernel
theorem dd_Client_learn_6 : decode bm_Client_learn 6 = .ok (.sipush 512, 3) := by decide +kernel
theorem dd_Client_learn_9 : decode bm_Client_learn 9 = .ok (.if_icmp .le 4, 3) := by decide +kernel
theorem dd_Client_learn_12 : decode bm_Client_learn 12 = .ok (.return_, 1) := by decide +kernel
theorem dd_Client_learn_13 : decode bm_Client_learn 13 = .ok (.aload_n 0, 1) := by decide +kernel
theorem dd_Client_learn_14 : decode bm_Client_learn 14 = .ok (.getfield 9, 3) := by decide +kernel
theorem dd_Client_learn_17 : decode bm_Client_learn 17 = .ok (.iload_n 1, 1) := by decide +kernel
theorem dd_Client_learn_18 : decode bm_Client_learn 18 = .ok (.iconst 1, 1) := by decide +kernel
theorem dd_Client_learn_19 : decode bm_Client_learn 19 = .ok (.bastore, 1) := by decide +kernel
theorem dd_Client_learn_20 : decode bm_Client_learn 20 = .ok (.aload_n 0, 1) := by decide +kernel
theorem dd_Client_learn_21 : decode bm_Client_learn 21 = .ok (.aload_n 0, 1) := by decide +kernel
theorem dd_Client_learn_22 : decode bm_Client_learn 22 = .ok (.getfield 15, 3) := by decide +kernel
theorem dd_Client_learn_25 : decode bm_Client_learn 25 = .ok (.iload_n 1, 1) := by decide +kernel
theorem dd_Client_learn_26 : decode bm_Client_learn 26 = .ok (.invokestatic 19, 3) := by decide +kernel
theorem dd_Client_learn_29 : decode bm_Client_learn 29 = .ok (.putfield 15, 3) := by decide +kernel
theorem dd_Client_learn_32 : decode bm_Client_learn 32 = .ok (.return_, 1) := by decide +kernel
theorem dd_Client_hasHeader_0 : decode bm_Client_hasHeader 0 = .ok (.iload_n 1, 1) := by decide +kernel
theorem dd_Client_hasHeader_1 : decode bm_Client_hasHeader 1 = .ok (.iconst 1, 1) := by decide +kernel
theorem dd_Client_hasHeader_2 : decode bm_Client_hasHeader 2 = .ok (.if_icmp .lt 23, 3) := by decide +kernel
theorem dd_Client_hasHeader_5 : decode bm_Client_hasHeader 5 = .ok (.iload_n 1, 1) := by decide +kernel
theorem dd_Client_hasHeader_6 : decode bm_Client_hasHeader 6 = .ok (.sipush 512, 3) := by decide +kernel
theorem dd_Client_hasHeader_9 : decode bm_Client_hasHeader 9 = .ok (.if_icmp .gt 16, 3) := by decide +kernel
theorem dd_Client_hasHeader_12 : decode bm_Client_hasHeader 12 = .ok (.aload_n 0, 1) := by decide +kernel
theorem dd_Client_hasHeader_13 : decode bm_Client_hasHeader 13 = .ok (.getfield 9, 3) := by decide +kernel
theorem dd_Client_hasHeader_16 : decode bm_Client_hasHeader 16 = .ok (.iload_n 1, 1) := by decide +kernel
theorem dd_Client_hasHeader_17 : decode bm_Client_hasHeader 17 = .ok (.baload, 1) := by decide +kernel
theorem dd_Client_hasHeader_18 : decode bm_Client_hasHeader 18 = .ok (.ifCond .eq 7, 3) := by decide +kernel
theorem dd_Client_hasHeader_21 : decode bm_Client_hasHeader 21 = .ok (.iconst 1, 1) := by decide +kernel
theorem dd_Client_hasHeader_22 : decode bm_Client_hasHeader 22 = .ok (.goto 4, 3) := by decide +kernel
theorem dd_Client_hasHeader_25 : decode bm_Client_hasHeader 25 = .ok (.iconst 0, 1) := by decide +kernel
theorem dd_Client_hasHeader_26 : decode bm_Client_hasHeader 26 = .ok (.ireturn, 1) := by decide +kernel
theorem dd_Bank_ctor_0 : decode bm_Bank_ctor 0 = .ok (.aload_n 0, 1) := by decide +kernel
theorem dd_Bank_ctor_1 : decode bm_Bank_ctor 1 = .ok (.invokespecial 3, 3) := by decide +kernel
theorem dd_Bank_ctor_4 : decode bm_Bank_ctor 4 = .ok (.aload_n 0, 1) := by decide +kernel
theorem dd_Bank_ctor_5 : decode bm_Bank_ctor 5 = .ok (.iconst 4, 1) := by decide +kernel
theorem dd_Bank_ctor_6 : decode bm_Bank_ctor 6 = .ok (.bipush 6, 2) := by decide +kernel
theorem dd_Bank_ctor_8 : decode bm_Bank_ctor 8 = .ok (.multianewarray 9 2, 4) := by decide +kernel
theorem dd_Bank_ctor_12 : decode bm_Bank_ctor 12 = .ok (.putfield 11, 3) := by decide +kernel
theorem dd_Bank_ctor_15 : decode bm_Bank_ctor 15 = .ok (.aload_n 0, 1) := by decide +kernel
theorem dd_Bank_ctor_16 : decode bm_Bank_ctor 16 = .ok (.iconst 3, 1) := by decide +kernel
theorem dd_Bank_ctor_17 : decode bm_Bank_ctor 17 = .ok (.bipush 6, 2) := by decide +kernel
theorem dd_Bank_ctor_19 : decode bm_Bank_ctor 19 = .ok (.multianewarray 9 2, 4) := by decide +kernel
theorem dd_Bank_ctor_23 : decode bm_Bank_ctor 23 = .ok (.putfield 16, 3) := by decide +kernel
theorem dd_Bank_ctor_26 : decode bm_Bank_ctor 26 = .ok (.aload_n 0, 1) := by decide +kernel
theorem dd_Bank_ctor_27 : decode bm_Bank_ctor 27 = .ok (.bipush 6, 2) := by decide +kernel
theorem dd_Bank_ctor_29 : decode bm_Bank_ctor 29 = .ok (.newarray .int, 2) := by decide +kernel
theorem dd_Bank_ctor_31 : decode bm_Bank_ctor 31 = .ok (.putfield 19, 3) := by decide +kernel
theorem dd_Bank_ctor_34 : decode bm_Bank_ctor 34 = .ok (.aload_n 0, 1) := by decide +kernel
theorem dd_Bank_ctor_35 : decode bm_Bank_ctor 35 = .ok (.bipush 6, 2) := by decide +kernel
theorem dd_Bank_ctor_37 : decode bm_Bank_ctor 37 = .ok (.newarray .int, 2) := by decide +kernel
theorem dd_Bank_ctor_39 : decode bm_Bank_ctor 39 = .ok (.putfield 23, 3) := by decide +kernel
theorem dd_Bank_ctor_42 : decode bm_Bank_ctor 42 = .ok (.iconst 0, 1) := by decide +kernel
theorem dd_Bank_ctor_43 : decode bm_Bank_ctor 43 = .ok (.istore_n 1, 1) := by decide +kernel
theorem dd_Bank_ctor_44 : decode bm_Bank_ctor 44 = .ok (.iload_n 1, 1) := by decide +kernel
theorem dd_Bank_ctor_45 : decode bm_Bank_ctor 45 = .ok (.iconst 4, 1) := by decide +kernel
theorem dd_Bank_ctor_46 : decode bm_Bank_ctor 46 = .ok (.if_icmp .ge 20, 3) := by decide +kernel
theorem dd_Bank_ctor_49 : decode bm_Bank_ctor 49 = .ok (.aload_n 0, 1) := by decide +kernel
theorem dd_Bank_ctor_50 : decode bm_Bank_ctor 50 = .ok (.getfield 11, 3) := by decide +kernel
theorem dd_Bank_ctor_53 : decode bm_Bank_ctor 53 = .ok (.iload_n 1, 1) := by decide +kernel
theorem dd_Bank_ctor_54 : decode bm_Bank_ctor 54 = .ok (.aaload, 1) := by decide +kernel
theorem dd_Bank_ctor_55 : decode bm_Bank_ctor 55 = .ok (.iconst 0, 1) := by decide +kernel
theorem dd_Bank_ctor_56 : decode bm_Bank_ctor 56 = .ok (.sipush 1000, 3) := by decide +kernel
theorem dd_Bank_ctor_59 : decode bm_Bank_ctor 59 = .ok (.iastore, 1) := by decide +kernel
theorem dd_Bank_ctor_60 : decode bm_Bank_ctor 60 = .ok (.iinc 1 1, 3) := by decide +kernel
theorem dd_Bank_ctor_63 : decode bm_Bank_ctor 63 = .ok (.goto (-19), 3) := by decide +kernel
theorem dd_Bank_ctor_66 : decode bm_Bank_ctor 66 = .ok (.return_, 1) := by decide +kernel
theorem dd_Bank_isKind_0 : decode bm_Bank_isKind 0 = .ok (.iload_n 1, 1) := by decide +kernel
theorem dd_Bank_isKind_1 : decode bm_Bank_isKind 1 = .ok (.ifCond .lt 15, 3) := by decide +kernel
theorem dd_Bank_isKind_4 : decode bm_Bank_isKind 4 = .ok (.iload_n 1, 1) := by decide +kernel
theorem dd_Bank_isKind_5 : decode bm_Bank_isKind 5 = .ok (.aload_n 0, 1) := by decide +kernel
theorem dd_Bank_isKind_6 : decode bm_Bank_isKind 6 = .ok (.getfield 26, 3) := by decide +kernel
theorem dd_Bank_isKind_9 : decode bm_Bank_isKind 9 = .ok (.if_icmp .gt 7, 3) := by decide +kernel
theorem dd_Bank_isKind_12 : decode bm_Bank_isKind 12 = .ok (.iconst 1, 1) := by decide +kernel
theorem dd_Bank_isKind_13 : decode bm_Bank_isKind 13 = .ok (.goto 4, 3) := by decide +kernel
theorem dd_Bank_isKind_16 : decode bm_Bank_isKind 16 = .ok (.iconst 0, 1) := by decide +kernel
theorem dd_Bank_isKind_17 : decode bm_Bank_isKind 17 = .ok (.ireturn, 1) := by decide +kernel
theorem dd_Bank_backBy_0 : decode bm_Bank_backBy 0 = .ok (.iload_n 1, 1) := by decide +kernel
theorem dd_Bank_backBy_1 : decode bm_Bank_backBy 1 = .ok (.ifCond .eq 24, 3) := by decide +kernel
theorem dd_Bank_backBy_4 : decode bm_Bank_backBy 4 = .ok (.aload_n 0, 1) := by decide +kernel
theorem dd_Bank_backBy_5 : decode bm_Bank_backBy 5 = .ok (.getfield 23, 3) := by decide +kernel
theorem dd_Bank_backBy_8 : decode bm_Bank_backBy 8 = .ok (.iload_n 1, 1) := by decide +kernel
theorem dd_Bank_backBy_9 : decode bm_Bank_backBy 9 = .ok (.iaload, 1) := by decide +kernel
theorem dd_Bank_backBy_10 : decode bm_Bank_backBy 10 = .ok (.iload_n 2, 1) := by decide +kernel
theorem dd_Bank_backBy_11 : decode bm_Bank_backBy 11 = .ok (.if_icmp .ne 14, 3) := by decide +kernel
theorem dd_Bank_backBy_14 : decode bm_Bank_backBy 14 = .ok (.iconst 1, 1) := by decide +kernel
theorem dd_Bank_backBy_15 : decode bm_Bank_backBy 15 = .ok (.aload_n 0, 1) := by decide +kernel
theorem dd_Bank_backBy_16 : decode bm_Bank_backBy 16 = .ok (.getfield 19, 3) := by decide +kernel
theorem dd_Bank_backBy_19 : decode bm_Bank_backBy 19 = .ok (.iload_n 1, 1) := by decide +kernel
theorem dd_Bank_backBy_20 : decode bm_Bank_backBy 20 = .ok (.iaload, 1) := by decide +kernel
theorem dd_Bank_backBy_21 : decode bm_Bank_backBy 21 = .ok (.iadd, 1) := by decide +kernel
theorem dd_Bank_backBy_22 : decode bm_Bank_backBy 22 = .ok (.goto 4, 3) := by decide +kernel
theorem dd_Bank_backBy_25 : decode bm_Bank_backBy 25 = .ok (.iconst 0, 1) := by decide +kernel
theorem dd_Bank_backBy_26 : decode bm_Bank_backBy 26 = .ok (.ireturn, 1) := by decide +kernel
theorem dd_Bank_charge_0 : decode bm_Bank_charge 0 = .ok (.aload_n 0, 1) := by decide +kernel
theorem dd_Bank_charge_1 : decode bm_Bank_charge 1 = .ok (.getfield 11, 3) := by decide +kernel
theorem dd_Bank_charge_4 : decode bm_Bank_charge 4 = .ok (.aload_n 1, 1) := by decide +kernel
theorem dd_Bank_charge_5 : decode bm_Bank_charge 5 = .ok (.getfield 30, 3) := by decide +kernel
theorem dd_Bank_charge_8 : decode bm_Bank_charge 8 = .ok (.aaload, 1) := by decide +kernel
theorem dd_Bank_charge_9 : decode bm_Bank_charge 9 = .ok (.aload_n 1, 1) := by decide +kernel
theorem dd_Bank_charge_10 : decode bm_Bank_charge 10 = .ok (.getfield 35, 3) := by decide +kernel
theorem dd_Bank_charge_13 : decode bm_Bank_charge 13 = .ok (.dup2, 1) := by decide +kernel
theorem dd_Bank_charge_14 : decode bm_Bank_charge 14 = .ok (.iaload, 1) := by decide +kernel
theorem dd_Bank_charge_15 : decode bm_Bank_charge 15 = .ok (.aload_n 1, 1) := by decide +kernel
theorem dd_Bank_charge_16 : decode bm_Bank_charge 16 = .ok (.getfield 38, 3) := by decide +kernel
theorem dd_Bank_charge_19 : decode bm_Bank_charge 19 = .ok (.isub, 1) := by decide +kernel
theorem dd_Bank_charge_20 : decode bm_Bank_charge 20 = .ok (.iastore, 1) := by decide +kernel
theorem dd_Bank_charge_21 : decode bm_Bank_charge 21 = .ok (.aload_n 1, 1) := by decide +kernel
theorem dd_Bank_charge_22 : decode bm_Bank_charge 22 = .ok (.invokevirtual 41, 3) := by decide +kernel
theorem dd_Bank_charge_25 : decode bm_Bank_charge 25 = .ok (.ifCond .ne 21, 3) := by decide +kernel
theorem dd_Bank_charge_28 : decode bm_Bank_charge 28 = .ok (.aload_n 0, 1) := by decide +kernel
theorem dd_Bank_charge_29 : decode bm_Bank_charge 29 = .ok (.getfield 16, 3) := by decide +kernel
theorem dd_Bank_charge_32 : decode bm_Bank_charge 32 = .ok (.iload_n 2, 1) := by decide +kernel
theorem dd_Bank_charge_33 : decode bm_Bank_charge 33 = .ok (.aaload, 1) := by decide +kernel
theorem dd_Bank_charge_34 : decode bm_Bank_charge 34 = .ok (.aload_n 1, 1) := by decide +kernel
theorem dd_Bank_charge_35 : decode bm_Bank_charge 35 = .ok (.getfield 35, 3) := by decide +kernel
theorem dd_Bank_charge_38 : decode bm_Bank_charge 38 = .ok (.dup2, 1) := by decide +kernel
theorem dd_Bank_charge_39 : decode bm_Bank_charge 39 = .ok (.iaload, 1) := by decide +kernel
theorem dd_Bank_charge_40 : decode bm_Bank_charge 40 = .ok (.aload_n 1, 1) := by decide +kernel
theorem dd_Bank_charge_41 : decode bm_Bank_charge 41 = .ok (.getfield 38, 3) := by decide +kernel
theorem dd_Bank_charge_44 : decode bm_Bank_charge 44 = .ok (.iadd, 1) := by decide +kernel
theorem dd_Bank_charge_45 : decode bm_Bank_charge 45 = .ok (.iastore, 1) := by decide +kernel
theorem dd_Bank_charge_46 : decode bm_Bank_charge 46 = .ok (.return_, 1) := by decide +kernel
theorem dd_Bank_refund_0 : decode bm_Bank_refund 0 = .ok (.aload_n 0, 1) := by decide +kernel
theorem dd_Bank_refund_1 : decode bm_Bank_refund 1 = .ok (.getfield 11, 3) := by decide +kernel
theorem dd_Bank_refund_4 : decode bm_Bank_refund 4 = .ok (.aload_n 1, 1) := by decide +kernel
theorem dd_Bank_refund_5 : decode bm_Bank_refund 5 = .ok (.getfield 30, 3) := by decide +kernel
theorem dd_Bank_refund_8 : decode bm_Bank_refund 8 = .ok (.aaload, 1) := by decide +kernel
theorem dd_Bank_refund_9 : decode bm_Bank_refund 9 = .ok (.aload_n 1, 1) := by decide +kernel
theorem dd_Bank_refund_10 : decode bm_Bank_refund 10 = .ok (.getfield 35, 3) := by decide +kernel
theorem dd_Bank_refund_13 : decode bm_Bank_refund 13 = .ok (.dup2, 1) := by decide +kernel
theorem dd_Bank_refund_14 : decode bm_Bank_refund 14 = .ok (.iaload, 1) := by decide +kernel
theorem dd_Bank_refund_15 : decode bm_Bank_refund 15 = .ok (.aload_n 1, 1) := by decide +kernel
theorem dd_Bank_refund_16 : decode bm_Bank_refund 16 = .ok (.getfield 38, 3) := by decide +kernel
theorem dd_Bank_refund_19 : decode bm_Bank_refund 19 = .ok (.iadd, 1) := by decide +kernel
theorem dd_Bank_refund_20 : decode bm_Bank_refund 20 = .ok (.iastore, 1) := by decide +kernel
theorem dd_Bank_refund_21 : decode bm_Bank_refund 21 = .ok (.aload_n 1, 1) := by decide +kernel
theorem dd_Bank_refund_22 : decode bm_Bank_refund 22 = .ok (.invokevirtual 41, 3) := by decide +kernel
theorem dd_Bank_refund_25 : decode bm_Bank_refund 25 = .ok (.ifCond .ne 21, 3) := by decide +kernel
theorem dd_Bank_refund_28 : decode bm_Bank_refund 28 = .ok (.aload_n 0, 1) := by decide +kernel
theorem dd_Bank_refund_29 : decode bm_Bank_refund 29 = .ok (.getfield 16, 3) := by decide +kernel
theorem dd_Bank_refund_32 : decode bm_Bank_refund 32 = .ok (.iload_n 2, 1) := by decide +kernel
theorem dd_Bank_refund_33 : decode bm_Bank_refund 33 = .ok (.aaload, 1) := by decide +kernel
theorem dd_Bank_refund_34 : decode bm_Bank_refund 34 = .ok (.aload_n 1, 1) := by decide +kernel
theorem dd_Bank_refund_35 : decode bm_Bank_refund 35 = .ok (.getfield 35, 3) := by decide +kernel
theorem dd_Bank_refund_38 : decode bm_Bank_refund 38 = .ok (.dup2, 1) := by decide +kernel
theorem dd_Bank_refund_39 : decode bm_Bank_refund 39 = .ok (.iaload, 1) := by decide +kernel
theorem dd_Bank_refund_40 : decode bm_Bank_refund 40 = .ok (.aload_n 1, 1) := by decide +kernel
theorem dd_Bank_refund_41 : decode bm_Bank_refund 41 = .ok (.getfield 38, 3) := by decide +kernel
theorem dd_Bank_refund_44 : decode bm_Bank_refund 44 = .ok (.isub, 1) := by decide +kernel
theorem dd_Bank_refund_45 : decode bm_Bank_refund 45 = .ok (.iastore, 1) := by decide +kernel
theorem dd_Bank_refund_46 : decode bm_Bank_refund 46 = .ok (.return_, 1) := by decide +kernel
theorem dd_Bank_take_0 : decode bm_Bank_take 0 = .ok (.aload_n 1, 1) := by decide +kernel
theorem dd_Bank_take_1 : decode bm_Bank_take 1 = .ok (.getfield 45, 3) := by decide +kernel
theorem dd_Bank_take_4 : decode bm_Bank_take 4 = .ok (.iconst 3, 1) := by decide +kernel
theorem dd_Bank_take_5 : decode bm_Bank_take 5 = .ok (.if_icmp .ne 5, 3) := by decide +kernel
theorem dd_Bank_take_8 : decode bm_Bank_take 8 = .ok (.iconst 0, 1) := by decide +kernel
theorem dd_Bank_take_9 : decode bm_Bank_take 9 = .ok (.ireturn, 1) := by decide +kernel
theorem dd_Bank_take_10 : decode bm_Bank_take 10 = .ok (.aload_n 1, 1) := by decide +kernel
theorem dd_Bank_take_11 : decode bm_Bank_take 11 = .ok (.invokevirtual 41, 3) := by decide +kernel
theorem dd_Bank_take_14 : decode bm_Bank_take 14 = .ok (.ifCond .eq 12, 3) := by decide +kernel
theorem dd_Bank_take_17 : decode bm_Bank_take 17 = .ok (.aload_n 0, 1) := by decide +kernel
theorem dd_Bank_take_18 : decode bm_Bank_take 18 = .ok (.aload_n 1, 1) := by decide +kernel
theorem dd_Bank_take_19 : decode bm_Bank_take 19 = .ok (.iload_n 2, 1) := by decide +kernel
theorem dd_Bank_take_20 : decode bm_Bank_take 20 = .ok (.invokevirtual 48, 3) := by decide +kernel
theorem dd_Bank_take_23 : decode bm_Bank_take 23 = .ok (.goto 9, 3) := by decide +kernel
theorem dd_Bank_take_26 : decode bm_Bank_take 26 = .ok (.aload_n 0, 1) := by decide +kernel
theorem dd_Bank_take_27 : decode bm_Bank_take 27 = .ok (.aload_n 1, 1) := by decide +kernel
theorem dd_Bank_take_28 : decode bm_Bank_take 28 = .ok (.iload_n 2, 1) := by decide +kernel
theorem dd_Bank_take_29 : decode bm_Bank_take 29 = .ok (.invokevirtual 52, 3) := by decide +kernel
theorem dd_Bank_take_32 : decode bm_Bank_take 32 = .ok (.ireturn, 1) := by decide +kernel
theorem dd_Bank_takeBack_0 : decode bm_Bank_takeBack 0 = .ok (.aload_n 1, 1) := by decide +kernel
theorem dd_Bank_takeBack_1 : decode bm_Bank_takeBack 1 = .ok (.getfield 55, 3) := by decide +kernel
theorem dd_Bank_takeBack_4 : decode bm_Bank_takeBack 4 = .ok (.iconst 1, 1) := by decide +kernel
theorem dd_Bank_takeBack_5 : decode bm_Bank_takeBack 5 = .ok (.isub, 1) := by decide +kernel
theorem dd_Bank_takeBack_6 : decode bm_Bank_takeBack 6 = .ok (.istore_n 3, 1) := by decide +kernel
theorem dd_Bank_takeBack_7 : decode bm_Bank_takeBack 7 = .ok (.aload_n 0, 1) := by decide +kernel
theorem dd_Bank_takeBack_8 : decode bm_Bank_takeBack 8 = .ok (.getfield 16, 3) := by decide +kernel
theorem dd_Bank_takeBack_11 : decode bm_Bank_takeBack 11 = .ok (.iload_n 2, 1) := by decide +kernel
theorem dd_Bank_takeBack_12 : decode bm_Bank_takeBack 12 = .ok (.aaload, 1) := by decide +kernel
theorem dd_Bank_takeBack_13 : decode bm_Bank_takeBack 13 = .ok (.iload_n 3, 1) := by decide +kernel
theorem dd_Bank_takeBack_14 : decode bm_Bank_takeBack 14 = .ok (.iaload, 1) := by decide +kernel
theorem dd_Bank_takeBack_15 : decode bm_Bank_takeBack 15 = .ok (.aload_n 1, 1) := by decide +kernel
theorem dd_Bank_takeBack_16 : decode bm_Bank_takeBack 16 = .ok (.getfield 38, 3) := by decide +kernel
theorem dd_Bank_takeBack_19 : decode bm_Bank_takeBack 19 = .ok (.if_icmp .ge 5, 3) := by decide +kernel
theorem dd_Bank_takeBack_22 : decode bm_Bank_takeBack 22 = .ok (.iconst 0, 1) := by decide +kernel
theorem dd_Bank_takeBack_23 : decode bm_Bank_takeBack 23 = .ok (.ireturn, 1) := by decide +kernel
theorem dd_Bank_takeBack_24 : decode bm_Bank_takeBack 24 = .ok (.aload_n 0, 1) := by decide +kernel
theorem dd_Bank_takeBack_25 : decode bm_Bank_takeBack 25 = .ok (.getfield 16, 3) := by decide +kernel
theorem dd_Bank_takeBack_28 : decode bm_Bank_takeBack 28 = .ok (.iload_n 2, 1) := by decide +kernel
theorem dd_Bank_takeBack_29 : decode bm_Bank_takeBack 29 = .ok (.aaload, 1) := by decide +kernel
theorem dd_Bank_takeBack_30 : decode bm_Bank_takeBack 30 = .ok (.iload_n 3, 1) := by decide +kernel
theorem dd_Bank_takeBack_31 : decode bm_Bank_takeBack 31 = .ok (.dup2, 1) := by decide +kernel
theorem dd_Bank_takeBack_32 : decode bm_Bank_takeBack 32 = .ok (.iaload, 1) := by decide +kernel
theorem dd_Bank_takeBack_33 : decode bm_Bank_takeBack 33 = .ok (.aload_n 1, 1) := by decide +kernel
theorem dd_Bank_takeBack_34 : decode bm_Bank_takeBack 34 = .ok (.getfield 38, 3) := by decide +kernel
theorem dd_Bank_takeBack_37 : decode bm_Bank_takeBack 37 = .ok (.isub, 1) := by decide +kernel
theorem dd_Bank_takeBack_38 : decode bm_Bank_takeBack 38 = .ok (.iastore, 1) := by decide +kernel
theorem dd_Bank_takeBack_39 : decode bm_Bank_takeBack 39 = .ok (.aload_n 0, 1) := by decide +kernel
theorem dd_Bank_takeBack_40 : decode bm_Bank_takeBack 40 = .ok (.getfield 11, 3) := by decide +kernel
theorem dd_Bank_takeBack_43 : decode bm_Bank_takeBack 43 = .ok (.aload_n 1, 1) := by decide +kernel
theorem dd_Bank_takeBack_44 : decode bm_Bank_takeBack 44 = .ok (.getfield 45, 3) := by decide +kernel
theorem dd_Bank_takeBack_47 : decode bm_Bank_takeBack 47 = .ok (.aaload, 1) := by decide +kernel
theorem dd_Bank_takeBack_48 : decode bm_Bank_takeBack 48 = .ok (.iload_n 3, 1) := by decide +kernel
theorem dd_Bank_takeBack_49 : decode bm_Bank_takeBack 49 = .ok (.dup2, 1) := by decide +kernel
theorem dd_Bank_takeBack_50 : decode bm_Bank_takeBack 50 = .ok (.iaload, 1) := by decide +kernel
theorem dd_Bank_takeBack_51 : decode bm_Bank_takeBack 51 = .ok (.aload_n 1, 1) := by decide +kernel
theorem dd_Bank_takeBack_52 : decode bm_Bank_takeBack 52 = .ok (.getfield 38, 3) := by decide +kernel
theorem dd_Bank_takeBack_55 : decode bm_Bank_takeBack 55 = .ok (.iadd, 1) := by decide +kernel
theorem dd_Bank_takeBack_56 : decode bm_Bank_takeBack 56 = .ok (.iastore, 1) := by decide +kernel
theorem dd_Bank_takeBack_57 : decode bm_Bank_takeBack 57 = .ok (.iconst 1, 1) := by decide +kernel
theorem dd_Bank_takeBack_58 : decode bm_Bank_takeBack 58 = .ok (.ireturn, 1) := by decide +kernel
theorem dd_Bank_takeVoucher_0 : decode bm_Bank_takeVoucher 0 = .ok (.aload_n 0, 1) := by decide +kernel
theorem dd_Bank_takeVoucher_1 : decode bm_Bank_takeVoucher 1 = .ok (.aload_n 1, 1) := by decide +kernel
theorem dd_Bank_takeVoucher_2 : decode bm_Bank_takeVoucher 2 = .ok (.getfield 35, 3) := by decide +kernel
theorem dd_Bank_takeVoucher_5 : decode bm_Bank_takeVoucher 5 = .ok (.iload_n 2, 1) := by decide +kernel
theorem dd_Bank_takeVoucher_6 : decode bm_Bank_takeVoucher 6 = .ok (.invokevirtual 58, 3) := by decide +kernel
theorem dd_Bank_takeVoucher_9 : decode bm_Bank_takeVoucher 9 = .ok (.istore_n 3, 1) := by decide +kernel
theorem dd_Bank_takeVoucher_10 : decode bm_Bank_takeVoucher 10 = .ok (.iload_n 3, 1) := by decide +kernel
theorem dd_Bank_takeVoucher_11 : decode bm_Bank_takeVoucher 11 = .ok (.ifCond .ne 45, 3) := by decide +kernel
theorem dd_Bank_takeVoucher_14 : decode bm_Bank_takeVoucher 14 = .ok (.aload_n 0, 1) := by decide +kernel
theorem dd_Bank_takeVoucher_15 : decode bm_Bank_takeVoucher 15 = .ok (.getfield 26, 3) := by decide +kernel
theorem dd_Bank_takeVoucher_18 : decode bm_Bank_takeVoucher 18 = .ok (.iconst 5, 1) := by decide +kernel
theorem dd_Bank_takeVoucher_19 : decode bm_Bank_takeVoucher 19 = .ok (.if_icmp .lt 5, 3) := by decide +kernel
theorem dd_Bank_takeVoucher_22 : decode bm_Bank_takeVoucher 22 = .ok (.iconst 0, 1) := by decide +kernel
theorem dd_Bank_takeVoucher_23 : decode bm_Bank_takeVoucher 23 = .ok (.ireturn, 1) := by decide +kernel
theorem dd_Bank_takeVoucher_24 : decode bm_Bank_takeVoucher 24 = .ok (.aload_n 0, 1) := by decide +kernel
theorem dd_Bank_takeVoucher_25 : decode bm_Bank_takeVoucher 25 = .ok (.dup, 1) := by decide +kernel
theorem dd_Bank_takeVoucher_26 : decode bm_Bank_takeVoucher 26 = .ok (.getfield 26, 3) := by decide +kernel
theorem dd_Bank_takeVoucher_29 : decode bm_Bank_takeVoucher 29 = .ok (.iconst 1, 1) := by decide +kernel
theorem dd_Bank_takeVoucher_30 : decode bm_Bank_takeVoucher 30 = .ok (.iadd, 1) := by decide +kernel
theorem dd_Bank_takeVoucher_31 : decode bm_Bank_takeVoucher 31 = .ok (.putfield 26, 3) := by decide +kernel
theorem dd_Bank_takeVoucher_34 : decode bm_Bank_takeVoucher 34 = .ok (.aload_n 0, 1) := by decide +kernel
theorem dd_Bank_takeVoucher_35 : decode bm_Bank_takeVoucher 35 = .ok (.getfield 26, 3) := by decide +kernel
theorem dd_Bank_takeVoucher_38 : decode bm_Bank_takeVoucher 38 = .ok (.istore_n 3, 1) := by decide +kernel
theorem dd_Bank_takeVoucher_39 : decode bm_Bank_takeVoucher 39 = .ok (.aload_n 0, 1) := by decide +kernel
theorem dd_Bank_takeVoucher_40 : decode bm_Bank_takeVoucher 40 = .ok (.getfield 19, 3) := by decide +kernel
theorem dd_Bank_takeVoucher_43 : decode bm_Bank_takeVoucher 43 = .ok (.iload_n 3, 1) := by decide +kernel
theorem dd_Bank_takeVoucher_44 : decode bm_Bank_takeVoucher 44 = .ok (.aload_n 1, 1) := by decide +kernel
theorem dd_Bank_takeVoucher_45 : decode bm_Bank_takeVoucher 45 = .ok (.getfield 35, 3) := by decide +kernel
theorem dd_Bank_takeVoucher_48 : decode bm_Bank_takeVoucher 48 = .ok (.iastore, 1) := by decide +kernel
theorem dd_Bank_takeVoucher_49 : decode bm_Bank_takeVoucher 49 = .ok (.aload_n 0, 1) := by decide +kernel
theorem dd_Bank_takeVoucher_50 : decode bm_Bank_takeVoucher 50 = .ok (.getfield 23, 3) := by decide +kernel
theorem dd_Bank_takeVoucher_53 : decode bm_Bank_takeVoucher 53 = .ok (.iload_n 3, 1) := by decide +kernel
theorem dd_Bank_takeVoucher_54 : decode bm_Bank_takeVoucher 54 = .ok (.iload_n 2, 1) := by decide +kernel
theorem dd_Bank_takeVoucher_55 : decode bm_Bank_takeVoucher 55 = .ok (.iastore, 1) := by decide +kernel
theorem dd_Bank_takeVoucher_56 : decode bm_Bank_takeVoucher 56 = .ok (.aload_n 0, 1) := by decide +kernel
theorem dd_Bank_takeVoucher_57 : decode bm_Bank_takeVoucher 57 = .ok (.getfield 11, 3) := by decide +kernel
theorem dd_Bank_takeVoucher_60 : decode bm_Bank_takeVoucher 60 = .ok (.aload_n 1, 1) := by decide +kernel
theorem dd_Bank_takeVoucher_61 : decode bm_Bank_takeVoucher 61 = .ok (.getfield 45, 3) := by decide +kernel
theorem dd_Bank_takeVoucher_64 : decode bm_Bank_takeVoucher 64 = .ok (.aaload, 1) := by decide +kernel
theorem dd_Bank_takeVoucher_65 : decode bm_Bank_takeVoucher 65 = .ok (.iload_n 3, 1) := by decide +kernel
theorem dd_Bank_takeVoucher_66 : decode bm_Bank_takeVoucher 66 = .ok (.dup2, 1) := by decide +kernel
theorem dd_Bank_takeVoucher_67 : decode bm_Bank_takeVoucher 67 = .ok (.iaload, 1) := by decide +kernel
theorem dd_Bank_takeVoucher_68 : decode bm_Bank_takeVoucher 68 = .ok (.aload_n 1, 1) := by decide +kernel
theorem dd_Bank_takeVoucher_69 : decode bm_Bank_takeVoucher 69 = .ok (.getfield 38, 3) := by decide +kernel
theorem dd_Bank_takeVoucher_72 : decode bm_Bank_takeVoucher 72 = .ok (.iadd, 1) := by decide +kernel
theorem dd_Bank_takeVoucher_73 : decode bm_Bank_takeVoucher 73 = .ok (.iastore, 1) := by decide +kernel
theorem dd_Bank_takeVoucher_74 : decode bm_Bank_takeVoucher 74 = .ok (.iconst 1, 1) := by decide +kernel
theorem dd_Bank_takeVoucher_75 : decode bm_Bank_takeVoucher 75 = .ok (.ireturn, 1) := by decide +kernel
theorem dd_Bank_findVoucher_0 : decode bm_Bank_findVoucher 0 = .ok (.iconst 1, 1) := by decide +kernel
theorem dd_Bank_findVoucher_1 : decode bm_Bank_findVoucher 1 = .ok (.istore_n 3, 1) := by decide +kernel
theorem dd_Bank_findVoucher_2 : decode bm_Bank_findVoucher 2 = .ok (.iload_n 3, 1) := by decide +kernel
theorem dd_Bank_findVoucher_3 : decode bm_Bank_findVoucher 3 = .ok (.aload_n 0, 1) := by decide +kernel
theorem dd_Bank_findVoucher_4 : decode bm_Bank_findVoucher 4 = .ok (.getfield 26, 3) := by decide +kernel
theorem dd_Bank_findVoucher_7 : decode bm_Bank_findVoucher 7 = .ok (.if_icmp .gt 31, 3) := by decide +kernel
theorem dd_Bank_findVoucher_10 : decode bm_Bank_findVoucher 10 = .ok (.aload_n 0, 1) := by decide +kernel
theorem dd_Bank_findVoucher_11 : decode bm_Bank_findVoucher 11 = .ok (.getfield 19, 3) := by decide +kernel
theorem dd_Bank_findVoucher_14 : decode bm_Bank_findVoucher 14 = .ok (.iload_n 3, 1) := by decide +kernel
theorem dd_Bank_findVoucher_15 : decode bm_Bank_findVoucher 15 = .ok (.iaload, 1) := by decide +kernel
theorem dd_Bank_findVoucher_16 : decode bm_Bank_findVoucher 16 = .ok (.iload_n 1, 1) := by decide +kernel
theorem dd_Bank_findVoucher_17 : decode bm_Bank_findVoucher 17 = .ok (.if_icmp .ne 15, 3) := by decide +kernel
theorem dd_Bank_findVoucher_20 : decode bm_Bank_findVoucher 20 = .ok (.aload_n 0, 1) := by decide +kernel
theorem dd_Bank_findVoucher_21 : decode bm_Bank_findVoucher 21 = .ok (.getfield 23, 3) := by decide +kernel
theorem dd_Bank_findVoucher_24 : decode bm_Bank_findVoucher 24 = .ok (.iload_n 3, 1) := by decide +kernel
theorem dd_Bank_findVoucher_25 : decode bm_Bank_findVoucher 25 = .ok (.iaload, 1) := by decide +kernel
theorem dd_Bank_findVoucher_26 : decode bm_Bank_findVoucher 26 = .ok (.iload_n 2, 1) := by decide +kernel
theorem dd_Bank_findVoucher_27 : decode bm_Bank_findVoucher 27 = .ok (.if_icmp .ne 5, 3) := by decide +kernel
theorem dd_Bank_findVoucher_30 : decode bm_Bank_findVoucher 30 = .ok (.iload_n 3, 1) := by decide +kernel
theorem dd_Bank_findVoucher_31 : decode bm_Bank_findVoucher 31 = .ok (.ireturn, 1) := by decide +kernel
theorem dd_Bank_findVoucher_32 : decode bm_Bank_findVoucher 32 = .ok (.iinc 3 1, 3) := by decide +kernel
theorem dd_Bank_findVoucher_35 : decode bm_Bank_findVoucher 35 = .ok (.goto (-33), 3) := by decide +kernel
theorem dd_Bank_findVoucher_38 : decode bm_Bank_findVoucher 38 = .ok (.iconst 0, 1) := by decide +kernel
theorem dd_Bank_findVoucher_39 : decode bm_Bank_findVoucher 39 = .ok (.ireturn, 1) := by decide +kernel
theorem dd_End_ctor_0 : decode bm_End_ctor 0 = .ok (.aload_n 0, 1) := by decide +kernel
theorem dd_End_ctor_1 : decode bm_End_ctor 1 = .ok (.invokespecial 3, 3) := by decide +kernel
theorem dd_End_ctor_4 : decode bm_End_ctor 4 = .ok (.aload_n 0, 1) := by decide +kernel
theorem dd_End_ctor_5 : decode bm_End_ctor 5 = .ok (.bipush 12, 2) := by decide +kernel
theorem dd_End_ctor_7 : decode bm_End_ctor 7 = .ok (.anewarray 9, 3) := by decide +kernel
theorem dd_End_ctor_10 : decode bm_End_ctor 10 = .ok (.putfield 11, 3) := by decide +kernel
theorem dd_End_ctor_13 : decode bm_End_ctor 13 = .ok (.aload_n 0, 1) := by decide +kernel
theorem dd_End_ctor_14 : decode bm_End_ctor 14 = .ok (.iconst 1, 1) := by decide +kernel
theorem dd_End_ctor_15 : decode bm_End_ctor 15 = .ok (.putfield 17, 3) := by decide +kernel
theorem dd_End_ctor_18 : decode bm_End_ctor 18 = .ok (.iconst 0, 1) := by decide +kernel
theorem dd_End_ctor_19 : decode bm_End_ctor 19 = .ok (.istore_n 1, 1) := by decide +kernel
theorem dd_End_ctor_20 : decode bm_End_ctor 20 = .ok (.iload_n 1, 1) := by decide +kernel
theorem dd_End_ctor_21 : decode bm_End_ctor 21 = .ok (.bipush 12, 2) := by decide +kernel
theorem dd_End_ctor_23 : decode bm_End_ctor 23 = .ok (.if_icmp .ge 22, 3) := by decide +kernel
theorem dd_End_ctor_26 : decode bm_End_ctor 26 = .ok (.aload_n 0, 1) := by decide +kernel
theorem dd_End_ctor_27 : decode bm_End_ctor 27 = .ok (.getfield 11, 3) := by decide +kernel
theorem dd_End_ctor_30 : decode bm_End_ctor 30 = .ok (.iload_n 1, 1) := by decide +kernel
theorem dd_End_ctor_31 : decode bm_End_ctor 31 = .ok (.new 9, 3) := by decide +kernel
theorem dd_End_ctor_34 : decode bm_End_ctor 34 = .ok (.dup, 1) := by decide +kernel
theorem dd_End_ctor_35 : decode bm_End_ctor 35 = .ok (.invokespecial 21, 3) := by decide +kernel
theorem dd_End_ctor_38 : decode bm_End_ctor 38 = .ok (.aastore, 1) := by decide +kernel
theorem dd_End_ctor_39 : decode bm_End_ctor 39 = .ok (.iinc 1 1, 3) := by decide +kernel
theorem dd_End_ctor_42 : decode bm_End_ctor 42 = .ok (.goto (-22), 3) := by decide +kernel
theorem dd_End_ctor_45 : decode bm_End_ctor 45 = .ok (.return_, 1) := by decide +kernel
theorem dd_Packet_ctor_0 : decode bm_Packet_ctor 0 = .ok (.aload_n 0, 1) := by decide +kernel
theorem dd_Packet_ctor_1 : decode bm_Packet_ctor 1 = .ok (.invokespecial 3, 3) := by decide +kernel
theorem dd_Packet_ctor_4 : decode bm_Packet_ctor 4 = .ok (.return_, 1) := by decide +kernel
theorem dd_Packet_goesBack_0 : decode bm_Packet_goesBack 0 = .ok (.aload_n 0, 1) := by decide +kernel
theorem dd_Packet_goesBack_1 : decode bm_Packet_goesBack 1 = .ok (.getfield 9, 3) := by decide +kernel
theorem dd_Packet_goesBack_4 : decode bm_Packet_goesBack 4 = .ok (.ifCond .le 7, 3) := by decide +kernel
theorem dd_Packet_goesBack_7 : decode bm_Packet_goesBack 7 = .ok (.iconst 1, 1) := by decide +kernel
theorem dd_Packet_goesBack_8 : decode bm_Packet_goesBack 8 = .ok (.goto 4, 3) := by decide +kernel
theorem dd_Packet_goesBack_11 : decode bm_Packet_goesBack 11 = .ok (.iconst 0, 1) := by decide +kernel
theorem dd_Packet_goesBack_12 : decode bm_Packet_goesBack 12 = .ok (.ireturn, 1) := by decide +kernel
theorem dd_Packet_printWith_0 : decode bm_Packet_printWith 0 = .ok (.iconst 3, 1) := by decide +kernel
theorem dd_Packet_printWith_1 : decode bm_Packet_printWith 1 = .ok (.aload_n 0, 1) := by decide +kernel
theorem dd_Packet_printWith_2 : decode bm_Packet_printWith 2 = .ok (.getfield 15, 3) := by decide +kernel
theorem dd_Packet_printWith_5 : decode bm_Packet_printWith 5 = .ok (.invokestatic 18, 3) := by decide +kernel
theorem dd_Packet_printWith_8 : decode bm_Packet_printWith 8 = .ok (.aload_n 0, 1) := by decide +kernel
theorem dd_Packet_printWith_9 : decode bm_Packet_printWith 9 = .ok (.getfield 22, 3) := by decide +kernel
theorem dd_Packet_printWith_12 : decode bm_Packet_printWith 12 = .ok (.iload_n 1, 1) := by decide +kernel
theorem dd_Packet_printWith_13 : decode bm_Packet_printWith 13 = .ok (.iadd, 1) := by decide +kernel
theorem dd_Packet_printWith_14 : decode bm_Packet_printWith 14 = .ok (.invokestatic 18, 3) := by decide +kernel
theorem dd_Packet_printWith_17 : decode bm_Packet_printWith 17 = .ok (.istore_n 2, 1) := by decide +kernel
theorem dd_Packet_printWith_18 : decode bm_Packet_printWith 18 = .ok (.iload_n 2, 1) := by decide +kernel
theorem dd_Packet_printWith_19 : decode bm_Packet_printWith 19 = .ok (.iconst 4, 1) := by decide +kernel
theorem dd_Packet_printWith_20 : decode bm_Packet_printWith 20 = .ok (.aload_n 0, 1) := by decide +kernel
theorem dd_Packet_printWith_21 : decode bm_Packet_printWith 21 = .ok (.getfield 25, 3) := by decide +kernel
theorem dd_Packet_printWith_24 : decode bm_Packet_printWith 24 = .ok (.imul, 1) := by decide +kernel
theorem dd_Packet_printWith_25 : decode bm_Packet_printWith 25 = .ok (.aload_n 0, 1) := by decide +kernel
theorem dd_Packet_printWith_26 : decode bm_Packet_printWith 26 = .ok (.getfield 28, 3) := by decide +kernel
theorem dd_Packet_printWith_29 : decode bm_Packet_printWith 29 = .ok (.iadd, 1) := by decide +kernel
theorem dd_Packet_printWith_30 : decode bm_Packet_printWith 30 = .ok (.invokestatic 18, 3) := by decide +kernel
theorem dd_Packet_printWith_33 : decode bm_Packet_printWith 33 = .ok (.istore_n 2, 1) := by decide +kernel
theorem dd_Packet_printWith_34 : decode bm_Packet_printWith 34 = .ok (.iload_n 2, 1) := by decide +kernel
theorem dd_Packet_printWith_35 : decode bm_Packet_printWith 35 = .ok (.aload_n 0, 1) := by decide +kernel
theorem dd_Packet_printWith_36 : decode bm_Packet_printWith 36 = .ok (.getfield 31, 3) := by decide +kernel
theorem dd_Packet_printWith_39 : decode bm_Packet_printWith 39 = .ok (.invokestatic 18, 3) := by decide +kernel
theorem dd_Packet_printWith_42 : decode bm_Packet_printWith 42 = .ok (.aload_n 0, 1) := by decide +kernel
theorem dd_Packet_printWith_43 : decode bm_Packet_printWith 43 = .ok (.getfield 9, 3) := by decide +kernel
theorem dd_Packet_printWith_46 : decode bm_Packet_printWith 46 = .ok (.invokestatic 18, 3) := by decide +kernel
theorem dd_Packet_printWith_49 : decode bm_Packet_printWith 49 = .ok (.ireturn, 1) := by decide +kernel
theorem dd_Mo_ctor_0 : decode bm_Mo_ctor 0 = .ok (.aload_n 0, 1) := by decide +kernel
theorem dd_Mo_ctor_1 : decode bm_Mo_ctor 1 = .ok (.invokespecial 1, 3) := by decide +kernel
theorem dd_Mo_ctor_4 : decode bm_Mo_ctor 4 = .ok (.aload_n 0, 1) := by decide +kernel
theorem dd_Mo_ctor_5 : decode bm_Mo_ctor 5 = .ok (.iconst 2, 1) := by decide +kernel
theorem dd_Mo_ctor_6 : decode bm_Mo_ctor 6 = .ok (.newarray .int, 2) := by decide +kernel
theorem dd_Mo_ctor_8 : decode bm_Mo_ctor 8 = .ok (.putfield 7, 3) := by decide +kernel
theorem dd_Mo_ctor_11 : decode bm_Mo_ctor 11 = .ok (.aload_n 0, 1) := by decide +kernel
theorem dd_Mo_ctor_12 : decode bm_Mo_ctor 12 = .ok (.sipush 2200, 3) := by decide +kernel
theorem dd_Mo_ctor_15 : decode bm_Mo_ctor 15 = .ok (.newarray .boolean, 2) := by decide +kernel
theorem dd_Mo_ctor_17 : decode bm_Mo_ctor 17 = .ok (.putfield 13, 3) := by decide +kernel
theorem dd_Mo_ctor_20 : decode bm_Mo_ctor 20 = .ok (.aload_n 0, 1) := by decide +kernel
theorem dd_Mo_ctor_21 : decode bm_Mo_ctor 21 = .ok (.iconst 2, 1) := by decide +kernel
theorem dd_Mo_ctor_22 : decode bm_Mo_ctor 22 = .ok (.newarray .int, 2) := by decide +kernel
theorem dd_Mo_ctor_24 : decode bm_Mo_ctor 24 = .ok (.putfield 17, 3) := by decide +kernel
theorem dd_Mo_ctor_27 : decode bm_Mo_ctor 27 = .ok (.aload_n 0, 1) := by decide +kernel
theorem dd_Mo_ctor_28 : decode bm_Mo_ctor 28 = .ok (.bipush 16, 2) := by decide +kernel
theorem dd_Mo_ctor_30 : decode bm_Mo_ctor 30 = .ok (.newarray .int, 2) := by decide +kernel
theorem dd_Mo_ctor_32 : decode bm_Mo_ctor 32 = .ok (.putfield 20, 3) := by decide +kernel
theorem dd_Mo_ctor_35 : decode bm_Mo_ctor 35 = .ok (.aload_n 0, 1) := by decide +kernel
theorem dd_Mo_ctor_36 : decode bm_Mo_ctor 36 = .ok (.sipush 2048, 3) := by decide +kernel
theorem dd_Mo_ctor_39 : decode bm_Mo_ctor 39 = .ok (.newarray .int, 2) := by decide +kernel
theorem dd_Mo_ctor_41 : decode bm_Mo_ctor 41 = .ok (.putfield 23, 3) := by decide +kernel
theorem dd_Mo_ctor_44 : decode bm_Mo_ctor 44 = .ok (.aload_n 0, 1) := by decide +kernel
theorem dd_Mo_ctor_45 : decode bm_Mo_ctor 45 = .ok (.sipush 2048, 3) := by decide +kernel
theorem dd_Mo_ctor_48 : decode bm_Mo_ctor 48 = .ok (.newarray .int, 2) := by decide +kernel
theorem dd_Mo_ctor_50 : decode bm_Mo_ctor 50 = .ok (.putfield 26, 3) := by decide +kernel
theorem dd_Mo_ctor_53 : decode bm_Mo_ctor 53 = .ok (.aload_n 0, 1) := by decide +kernel
theorem dd_Mo_ctor_54 : decode bm_Mo_ctor 54 = .ok (.bipush 6, 2) := by decide +kernel
theorem dd_Mo_ctor_56 : decode bm_Mo_ctor 56 = .ok (.newarray .int, 2) := by decide +kernel
theorem dd_Mo_ctor_58 : decode bm_Mo_ctor 58 = .ok (.putfield 29, 3) := by decide +kernel
theorem dd_Mo_ctor_61 : decode bm_Mo_ctor 61 = .ok (.aload_n 0, 1) := by decide +kernel
theorem dd_Mo_ctor_62 : decode bm_Mo_ctor 62 = .ok (.bipush 6, 2) := by decide +kernel
theorem dd_Mo_ctor_64 : decode bm_Mo_ctor 64 = .ok (.newarray .boolean, 2) := by decide +kernel
theorem dd_Mo_ctor_66 : decode bm_Mo_ctor 66 = .ok (.putfield 32, 3) := by decide +kernel
theorem dd_Mo_ctor_69 : decode bm_Mo_ctor 69 = .ok (.aload_n 0, 1) := by decide +kernel
theorem dd_Mo_ctor_70 : decode bm_Mo_ctor 70 = .ok (.bipush 6, 2) := by decide +kernel
theorem dd_Mo_ctor_72 : decode bm_Mo_ctor 72 = .ok (.newarray .int, 2) := by decide +kernel
theorem dd_Mo_ctor_74 : decode bm_Mo_ctor 74 = .ok (.putfield 35, 3) := by decide +kernel
theorem dd_Mo_ctor_77 : decode bm_Mo_ctor 77 = .ok (.aload_n 0, 1) := by decide +kernel
theorem dd_Mo_ctor_78 : decode bm_Mo_ctor 78 = .ok (.bipush 6, 2) := by decide +kernel
theorem dd_Mo_ctor_80 : decode bm_Mo_ctor 80 = .ok (.newarray .int, 2) := by decide +kernel
theorem dd_Mo_ctor_82 : decode bm_Mo_ctor 82 = .ok (.dup, 1) := by decide +kernel
theorem dd_Mo_ctor_83 : decode bm_Mo_ctor 83 = .ok (.iconst 0, 1) := by decide +kernel
theorem dd_Mo_ctor_84 : decode bm_Mo_ctor 84 = .ok (.iconst 1, 1) := by decide +kernel
theorem dd_Mo_ctor_85 : decode bm_Mo_ctor 85 = .ok (.iastore, 1) := by decide +kernel
theorem dd_Mo_ctor_86 : decode bm_Mo_ctor 86 = .ok (.dup, 1) := by decide +kernel
theorem dd_Mo_ctor_87 : decode bm_Mo_ctor 87 = .ok (.iconst 1, 1) := by decide +kernel
theorem dd_Mo_ctor_88 : decode bm_Mo_ctor 88 = .ok (.iconst 1, 1) := by decide +kernel
theorem dd_Mo_ctor_89 : decode bm_Mo_ctor 89 = .ok (.iastore, 1) := by decide +kernel
theorem dd_Mo_ctor_90 : decode bm_Mo_ctor 90 = .ok (.dup, 1) := by decide +kernel
theorem dd_Mo_ctor_91 : decode bm_Mo_ctor 91 = .ok (.iconst 2, 1) := by decide +kernel
theorem dd_Mo_ctor_92 : decode bm_Mo_ctor 92 = .ok (.iconst 1, 1) := by decide +kernel
theorem dd_Mo_ctor_93 : decode bm_Mo_ctor 93 = .ok (.iastore, 1) := by decide +kernel
theorem dd_Mo_ctor_94 : decode bm_Mo_ctor 94 = .ok (.dup, 1) := by decide +kernel
theorem dd_Mo_ctor_95 : decode bm_Mo_ctor 95 = .ok (.iconst 3, 1) := by decide +kernel
theorem dd_Mo_ctor_96 : decode bm_Mo_ctor 96 = .ok (.iconst 1, 1) := by decide +kernel
theorem dd_Mo_ctor_97 : decode bm_Mo_ctor 97 = .ok (.iastore, 1) := by decide +kernel
theorem dd_Mo_ctor_98 : decode bm_Mo_ctor 98 = .ok (.dup, 1) := by decide +kernel
theorem dd_Mo_ctor_99 : decode bm_Mo_ctor 99 = .ok (.iconst 4, 1) := by decide +kernel
theorem dd_Mo_ctor_100 : decode bm_Mo_ctor 100 = .ok (.iconst 1, 1) := by decide +kernel
theorem dd_Mo_ctor_101 : decode bm_Mo_ctor 101 = .ok (.iastore, 1) := by decide +kernel
theorem dd_Mo_ctor_102 : decode bm_Mo_ctor 102 = .ok (.dup, 1) := by decide +kernel
theorem dd_Mo_ctor_103 : decode bm_Mo_ctor 103 = .ok (.iconst 5, 1) := by decide +kernel
theorem dd_Mo_ctor_104 : decode bm_Mo_ctor 104 = .ok (.iconst 1, 1) := by decide +kernel
theorem dd_Mo_ctor_105 : decode bm_Mo_ctor 105 = .ok (.iastore, 1) := by decide +kernel
theorem dd_Mo_ctor_106 : decode bm_Mo_ctor 106 = .ok (.putfield 38, 3) := by decide +kernel
theorem dd_Mo_ctor_109 : decode bm_Mo_ctor 109 = .ok (.aload_n 0, 1) := by decide +kernel
theorem dd_Mo_ctor_110 : decode bm_Mo_ctor 110 = .ok (.bipush 6, 2) := by decide +kernel
theorem dd_Mo_ctor_112 : decode bm_Mo_ctor 112 = .ok (.newarray .int, 2) := by decide +kernel
theorem dd_Mo_ctor_114 : decode bm_Mo_ctor 114 = .ok (.dup, 1) := by decide +kernel
theorem dd_Mo_ctor_115 : decode bm_Mo_ctor 115 = .ok (.iconst 0, 1) := by decide +kernel
theorem dd_Mo_ctor_116 : decode bm_Mo_ctor 116 = .ok (.iconst 1, 1) := by decide +kernel
theorem dd_Mo_ctor_117 : decode bm_Mo_ctor 117 = .ok (.iastore, 1) := by decide +kernel
theorem dd_Mo_ctor_118 : decode bm_Mo_ctor 118 = .ok (.dup, 1) := by decide +kernel
theorem dd_Mo_ctor_119 : decode bm_Mo_ctor 119 = .ok (.iconst 1, 1) := by decide +kernel
theorem dd_Mo_ctor_120 : decode bm_Mo_ctor 120 = .ok (.iconst 1, 1) := by decide +kernel
theorem dd_Mo_ctor_121 : decode bm_Mo_ctor 121 = .ok (.iastore, 1) := by decide +kernel
theorem dd_Mo_ctor_122 : decode bm_Mo_ctor 122 = .ok (.dup, 1) := by decide +kernel
theorem dd_Mo_ctor_123 : decode bm_Mo_ctor 123 = .ok (.iconst 2, 1) := by decide +kernel
theorem dd_Mo_ctor_124 : decode bm_Mo_ctor 124 = .ok (.iconst 1, 1) := by decide +kernel
theorem dd_Mo_ctor_125 : decode bm_Mo_ctor 125 = .ok (.iastore, 1) := by decide +kernel
theorem dd_Mo_ctor_126 : decode bm_Mo_ctor 126 = .ok (.dup, 1) := by decide +kernel
theorem dd_Mo_ctor_127 : decode bm_Mo_ctor 127 = .ok (.iconst 3, 1) := by decide +kernel
theorem dd_Mo_ctor_128 : decode bm_Mo_ctor 128 = .ok (.iconst 1, 1) := by decide +kernel
theorem dd_Mo_ctor_129 : decode bm_Mo_ctor 129 = .ok (.iastore, 1) := by decide +kernel
theorem dd_Mo_ctor_130 : decode bm_Mo_ctor 130 = .ok (.dup, 1) := by decide +kernel
theorem dd_Mo_ctor_131 : decode bm_Mo_ctor 131 = .ok (.iconst 4, 1) := by decide +kernel
theorem dd_Mo_ctor_132 : decode bm_Mo_ctor 132 = .ok (.iconst 1, 1) := by decide +kernel
theorem dd_Mo_ctor_133 : decode bm_Mo_ctor 133 = .ok (.iastore, 1) := by decide +kernel
theorem dd_Mo_ctor_134 : decode bm_Mo_ctor 134 = .ok (.dup, 1) := by decide +kernel
theorem dd_Mo_ctor_135 : decode bm_Mo_ctor 135 = .ok (.iconst 5, 1) := by decide +kernel
theorem dd_Mo_ctor_136 : decode bm_Mo_ctor 136 = .ok (.iconst 1, 1) := by decide +kernel
theorem dd_Mo_ctor_137 : decode bm_Mo_ctor 137 = .ok (.iastore, 1) := by decide +kernel
theorem dd_Mo_ctor_138 : decode bm_Mo_ctor 138 = .ok (.putfield 41, 3) := by decide +kernel
theorem dd_Mo_ctor_141 : decode bm_Mo_ctor 141 = .ok (.aload_n 0, 1) := by decide +kernel
theorem dd_Mo_ctor_142 : decode bm_Mo_ctor 142 = .ok (.bipush 78, 2) := by decide +kernel
theorem dd_Mo_ctor_144 : decode bm_Mo_ctor 144 = .ok (.newarray .int, 2) := by decide +kernel
theorem dd_Mo_ctor_146 : decode bm_Mo_ctor 146 = .ok (.putfield 44, 3) := by decide +kernel
theorem dd_Mo_ctor_149 : decode bm_Mo_ctor 149 = .ok (.aload_n 0, 1) := by decide +kernel
theorem dd_Mo_ctor_150 : decode bm_Mo_ctor 150 = .ok (.bipush 78, 2) := by decide +kernel
theorem dd_Mo_ctor_152 : decode bm_Mo_ctor 152 = .ok (.newarray .int, 2) := by decide +kernel
theorem dd_Mo_ctor_154 : decode bm_Mo_ctor 154 = .ok (.putfield 47, 3) := by decide +kernel
theorem dd_Mo_ctor_157 : decode bm_Mo_ctor 157 = .ok (.aload_n 0, 1) := by decide +kernel
theorem dd_Mo_ctor_158 : decode bm_Mo_ctor 158 = .ok (.bipush 78, 2) := by decide +kernel
theorem dd_Mo_ctor_160 : decode bm_Mo_ctor 160 = .ok (.newarray .int, 2) := by decide +kernel
theorem dd_Mo_ctor_162 : decode bm_Mo_ctor 162 = .ok (.putfield 50, 3) := by decide +kernel
theorem dd_Mo_ctor_165 : decode bm_Mo_ctor 165 = .ok (.aload_n 0, 1) := by decide +kernel
theorem dd_Mo_ctor_166 : decode bm_Mo_ctor 166 = .ok (.bipush 78, 2) := by decide +kernel
theorem dd_Mo_ctor_168 : decode bm_Mo_ctor 168 = .ok (.newarray .int, 2) := by decide +kernel
theorem dd_Mo_ctor_170 : decode bm_Mo_ctor 170 = .ok (.putfield 53, 3) := by decide +kernel
theorem dd_Mo_ctor_173 : decode bm_Mo_ctor 173 = .ok (.aload_n 0, 1) := by decide +kernel
theorem dd_Mo_ctor_174 : decode bm_Mo_ctor 174 = .ok (.bipush 78, 2) := by decide +kernel
theorem dd_Mo_ctor_176 : decode bm_Mo_ctor 176 = .ok (.newarray .int, 2) := by decide +kernel
theorem dd_Mo_ctor_178 : decode bm_Mo_ctor 178 = .ok (.putfield 56, 3) := by decide +kernel
theorem dd_Mo_ctor_181 : decode bm_Mo_ctor 181 = .ok (.aload_n 0, 1) := by decide +kernel
theorem dd_Mo_ctor_182 : decode bm_Mo_ctor 182 = .ok (.bipush 78, 2) := by decide +kernel
theorem dd_Mo_ctor_184 : decode bm_Mo_ctor 184 = .ok (.newarray .int, 2) := by decide +kernel
theorem dd_Mo_ctor_186 : decode bm_Mo_ctor 186 = .ok (.putfield 59, 3) := by decide +kernel
theorem dd_Mo_ctor_189 : decode bm_Mo_ctor 189 = .ok (.aload_n 0, 1) := by decide +kernel
theorem dd_Mo_ctor_190 : decode bm_Mo_ctor 190 = .ok (.bipush 78, 2) := by decide +kernel
theorem dd_Mo_ctor_192 : decode bm_Mo_ctor 192 = .ok (.newarray .int, 2) := by decide +kernel
theorem dd_Mo_ctor_194 : decode bm_Mo_ctor 194 = .ok (.putfield 62, 3) := by decide +kernel
theorem dd_Mo_ctor_197 : decode bm_Mo_ctor 197 = .ok (.aload_n 0, 1) := by decide +kernel
theorem dd_Mo_ctor_198 : decode bm_Mo_ctor 198 = .ok (.bipush 48, 2) := by decide +kernel
theorem dd_Mo_ctor_200 : decode bm_Mo_ctor 200 = .ok (.newarray .int, 2) := by decide +kernel
theorem dd_Mo_ctor_202 : decode bm_Mo_ctor 202 = .ok (.putfield 65, 3) := by decide +kernel
theorem dd_Mo_ctor_205 : decode bm_Mo_ctor 205 = .ok (.aload_n 0, 1) := by decide +kernel
theorem dd_Mo_ctor_206 : decode bm_Mo_ctor 206 = .ok (.bipush 36, 2) := by decide +kernel
theorem dd_Mo_ctor_208 : decode bm_Mo_ctor 208 = .ok (.newarray .int, 2) := by decide +kernel
theorem dd_Mo_ctor_210 : decode bm_Mo_ctor 210 = .ok (.putfield 68, 3) := by decide +kernel
theorem dd_Mo_ctor_213 : decode bm_Mo_ctor 213 = .ok (.aload_n 0, 1) := by decide +kernel
theorem dd_Mo_ctor_214 : decode bm_Mo_ctor 214 = .ok (.iconst 2, 1) := by decide +kernel
theorem dd_Mo_ctor_215 : decode bm_Mo_ctor 215 = .ok (.newarray .int, 2) := by decide +kernel
theorem dd_Mo_ctor_217 : decode bm_Mo_ctor 217 = .ok (.putfield 71, 3) := by decide +kernel
theorem dd_Mo_ctor_220 : decode bm_Mo_ctor 220 = .ok (.aload_n 0, 1) := by decide +kernel
theorem dd_Mo_ctor_221 : decode bm_Mo_ctor 221 = .ok (.bipush 12, 2) := by decide +kernel
theorem dd_Mo_ctor_223 : decode bm_Mo_ctor 223 = .ok (.newarray .int, 2) := by decide +kernel
theorem dd_Mo_ctor_225 : decode bm_Mo_ctor 225 = .ok (.putfield 74, 3) := by decide +kernel
theorem dd_Mo_ctor_228 : decode bm_Mo_ctor 228 = .ok (.aload_n 0, 1) := by decide +kernel
theorem dd_Mo_ctor_229 : decode bm_Mo_ctor 229 = .ok (.bipush 12, 2) := by decide +kernel
theorem dd_Mo_ctor_231 : decode bm_Mo_ctor 231 = .ok (.newarray .int, 2) := by decide +kernel
theorem dd_Mo_ctor_233 : decode bm_Mo_ctor 233 = .ok (.putfield 77, 3) := by decide +kernel
theorem dd_Mo_ctor_236 : decode bm_Mo_ctor 236 = .ok (.aload_n 0, 1) := by decide +kernel
theorem dd_Mo_ctor_237 : decode bm_Mo_ctor 237 = .ok (.bipush 16, 2) := by decide +kernel
theorem dd_Mo_ctor_239 : decode bm_Mo_ctor 239 = .ok (.newarray .int, 2) := by decide +kernel
theorem dd_Mo_ctor_241 : decode bm_Mo_ctor 241 = .ok (.putfield 80, 3) := by decide +kernel
theorem dd_Mo_ctor_244 : decode bm_Mo_ctor 244 = .ok (.aload_n 0, 1) := by decide +kernel
theorem dd_Mo_ctor_245 : decode bm_Mo_ctor 245 = .ok (.bipush 16, 2) := by decide +kernel
theorem dd_Mo_ctor_247 : decode bm_Mo_ctor 247 = .ok (.newarray .int, 2) := by decide +kernel
theorem dd_Mo_ctor_249 : decode bm_Mo_ctor 249 = .ok (.putfield 83, 3) := by decide +kernel
theorem dd_Mo_ctor_252 : decode bm_Mo_ctor 252 = .ok (.aload_n 0, 1) := by decide +kernel
theorem dd_Mo_ctor_253 : decode bm_Mo_ctor 253 = .ok (.iload_n 1, 1) := by decide +kernel
theorem dd_Mo_ctor_254 : decode bm_Mo_ctor 254 = .ok (.iconst 1, 1) := by decide +kernel
theorem dd_Mo_ctor_255 : decode bm_Mo_ctor 255 = .ok (.if_icmp .lt 9, 3) := by decide +kernel
theorem dd_Mo_ctor_258 : decode bm_Mo_ctor 258 = .ok (.iload_n 1, 1) := by decide +kernel
theorem dd_Mo_ctor_259 : decode bm_Mo_ctor 259 = .ok (.bipush 16, 2) := by decide +kernel
theorem dd_Mo_ctor_261 : decode bm_Mo_ctor 261 = .ok (.if_icmp .le 7, 3) := by decide +kernel
theorem dd_Mo_ctor_264 : decode bm_Mo_ctor 264 = .ok (.iconst 4, 1) := by decide +kernel
theorem dd_Mo_ctor_265 : decode bm_Mo_ctor 265 = .ok (.goto 4, 3) := by decide +kernel
theorem dd_Mo_ctor_268 : decode bm_Mo_ctor 268 = .ok (.iload_n 1, 1) := by decide +kernel
theorem dd_Mo_ctor_269 : decode bm_Mo_ctor 269 = .ok (.putfield 86, 3) := by decide +kernel
theorem dd_Mo_ctor_272 : decode bm_Mo_ctor 272 = .ok (.iconst 0, 1) := by decide +kernel
theorem dd_Mo_ctor_273 : decode bm_Mo_ctor 273 = .ok (.istore_n 2, 1) := by decide +kernel
theorem dd_Mo_ctor_274 : decode bm_Mo_ctor 274 = .ok (.iload_n 2, 1) := by decide +kernel
theorem dd_Mo_ctor_275 : decode bm_Mo_ctor 275 = .ok (.iconst 2, 1) := by decide +kernel
theorem dd_Mo_ctor_276 : decode bm_Mo_ctor 276 = .ok (.if_icmp .ge 39, 3) := by decide +kernel
theorem dd_Mo_ctor_279 : decode bm_Mo_ctor 279 = .ok (.iconst 0, 1) := by decide +kernel
theorem dd_Mo_ctor_280 : decode bm_Mo_ctor 280 = .ok (.istore_n 3, 1) := by decide +kernel
theorem dd_Mo_ctor_281 : decode bm_Mo_ctor 281 = .ok (.iload_n 3, 1) := by decide +kernel
theorem dd_Mo_ctor_282 : decode bm_Mo_ctor 282 = .ok (.iconst 4, 1) := by decide +kernel
theorem dd_Mo_ctor_283 : decode bm_Mo_ctor 283 = .ok (.if_icmp .ge 26, 3) := by decide +kernel
theorem dd_Mo_ctor_286 : decode bm_Mo_ctor 286 = .ok (.aload_n 0, 1) := by decide +kernel
theorem dd_Mo_ctor_287 : decode bm_Mo_ctor 287 = .ok (.getfield 65, 3) := by decide +kernel
theorem dd_Mo_ctor_290 : decode bm_Mo_ctor 290 = .ok (.bipush 24, 2) := by decide +kernel
theorem dd_Mo_ctor_292 : decode bm_Mo_ctor 292 = .ok (.iload_n 2, 1) := by decide +kernel
theorem dd_Mo_ctor_293 : decode bm_Mo_ctor 293 = .ok (.imul, 1) := by decide +kernel
theorem dd_Mo_ctor_294 : decode bm_Mo_ctor 294 = .ok (.bipush 6, 2) := by decide +kernel
theorem dd_Mo_ctor_296 : decode bm_Mo_ctor 296 = .ok (.iload_n 3, 1) := by decide +kernel
theorem dd_Mo_ctor_297 : decode bm_Mo_ctor 297 = .ok (.imul, 1) := by decide +kernel
theorem dd_Mo_ctor_298 : decode bm_Mo_ctor 298 = .ok (.iadd, 1) := by decide +kernel
theorem dd_Mo_ctor_299 : decode bm_Mo_ctor 299 = .ok (.sipush 1000, 3) := by decide +kernel
theorem dd_Mo_ctor_302 : decode bm_Mo_ctor 302 = .ok (.iastore, 1) := by decide +kernel
theorem dd_Mo_ctor_303 : decode bm_Mo_ctor 303 = .ok (.iinc 3 1, 3) := by decide +kernel
theorem dd_Mo_ctor_306 : decode bm_Mo_ctor 306 = .ok (.goto (-25), 3) := by decide +kernel
theorem dd_Mo_ctor_309 : decode bm_Mo_ctor 309 = .ok (.iinc 2 1, 3) := by decide +kernel
theorem dd_Mo_ctor_312 : decode bm_Mo_ctor 312 = .ok (.goto (-38), 3) := by decide +kernel
theorem dd_Mo_ctor_315 : decode bm_Mo_ctor 315 = .ok (.return_, 1) := by decide +kernel
end
section
theorem dd_Mo_outside_0 : decode bm_Mo_outside 0 = .ok (.iload_n 0, 1) := by decide +kernel
theorem dd_Mo_outside_1 : decode bm_Mo_outside 1 = .ok (.iload_n 1, 1) := by decide +kernel
theorem dd_Mo_outside_2 : decode bm_Mo_outside 2 = .ok (.if_icmp .lt 8, 3) := by decide +kernel
theorem dd_Mo_outside_5 : decode bm_Mo_outside 5 = .ok (.iload_n 0, 1) := by decide +kernel
theorem dd_Mo_outside_6 : decode bm_Mo_outside 6 = .ok (.iload_n 2, 1) := by decide +kernel
theorem dd_Mo_outside_7 : decode bm_Mo_outside 7 = .ok (.if_icmp .le 7, 3) := by decide +kernel
theorem dd_Mo_outside_10 : decode bm_Mo_outside 10 = .ok (.iconst 1, 1) := by decide +kernel
theorem dd_Mo_outside_11 : decode bm_Mo_outside 11 = .ok (.goto 4, 3) := by decide +kernel
theorem dd_Mo_outside_14 : decode bm_Mo_outside 14 = .ok (.iconst 0, 1) := by decide +kernel
theorem dd_Mo_outside_15 : decode bm_Mo_outside 15 = .ok (.ireturn, 1) := by decide +kernel
theorem dd_Mo_mix_0 : decode bm_Mo_mix 0 = .ok (.iload_n 0, 1) := by decide +kernel
theorem dd_Mo_mix_1 : decode bm_Mo_mix 1 = .ok (.iload_n 1, 1) := by decide +kernel
theorem dd_Mo_mix_2 : decode bm_Mo_mix 2 = .ok (.ixor, 1) := by decide +kernel
theorem dd_Mo_mix_3 : decode bm_Mo_mix 3 = .ok (.ldc 90, 2) := by decide +kernel
theorem dd_Mo_mix_5 : decode bm_Mo_mix 5 = .ok (.imul, 1) := by decide +kernel
theorem dd_Mo_mix_6 : decode bm_Mo_mix 6 = .ok (.istore_n 2, 1) := by decide +kernel
theorem dd_Mo_mix_7 : decode bm_Mo_mix 7 = .ok (.iload_n 2, 1) := by decide +kernel
theorem dd_Mo_mix_8 : decode bm_Mo_mix 8 = .ok (.iload_n 2, 1) := by decide +kernel
theorem dd_Mo_mix_9 : decode bm_Mo_mix 9 = .ok (.bipush 15, 2) := by decide +kernel
theorem dd_Mo_mix_11 : decode bm_Mo_mix 11 = .ok (.iushr, 1) := by decide +kernel
theorem dd_Mo_mix_12 : decode bm_Mo_mix 12 = .ok (.ixor, 1) := by decide +kernel
theorem dd_Mo_mix_13 : decode bm_Mo_mix 13 = .ok (.ireturn, 1) := by decide +kernel
theorem dd_Mo_list_0 : decode bm_Mo_list 0 = .ok (.bipush 8, 2) := by decide +kernel
theorem dd_Mo_list_2 : decode bm_Mo_list 2 = .ok (.iload_n 1, 1) := by decide +kernel
theorem dd_Mo_list_3 : decode bm_Mo_list 3 = .ok (.imul, 1) := by decide +kernel
theorem dd_Mo_list_4 : decode bm_Mo_list 4 = .ok (.aload_n 0, 1) := by decide +kernel
theorem dd_Mo_list_5 : decode bm_Mo_list 5 = .ok (.getfield 7, 3) := by decide +kernel
theorem dd_Mo_list_8 : decode bm_Mo_list 8 = .ok (.iload_n 1, 1) := by decide +kernel
theorem dd_Mo_list_9 : decode bm_Mo_list 9 = .ok (.iaload, 1) := by decide +kernel
theorem dd_Mo_list_10 : decode bm_Mo_list 10 = .ok (.bipush 8, 2) := by decide +kernel
theorem dd_Mo_list_12 : decode bm_Mo_list 12 = .ok (.irem, 1) := by decide +kernel
theorem dd_Mo_list_13 : decode bm_Mo_list 13 = .ok (.iadd, 1) := by decide +kernel
theorem dd_Mo_list_14 : decode bm_Mo_list 14 = .ok (.istore 4, 2) := by decide +kernel
theorem dd_Mo_list_16 : decode bm_Mo_list 16 = .ok (.aload_n 0, 1) := by decide +kernel
theorem dd_Mo_list_17 : decode bm_Mo_list 17 = .ok (.getfield 23, 3) := by decide +kernel
theorem dd_Mo_list_20 : decode bm_Mo_list 20 = .ok (.sipush 128, 3) := by decide +kernel
theorem dd_Mo_list_23 : decode bm_Mo_list 23 = .ok (.iload 4, 2) := by decide +kernel
theorem dd_Mo_list_25 : decode bm_Mo_list 25 = .ok (.imul, 1) := by decide +kernel
theorem dd_Mo_list_26 : decode bm_Mo_list 26 = .ok (.aload_n 0, 1) := by decide +kernel
theorem dd_Mo_list_27 : decode bm_Mo_list 27 = .ok (.getfield 20, 3) := by decide +kernel
theorem dd_Mo_list_30 : decode bm_Mo_list 30 = .ok (.iload 4, 2) := by decide +kernel
theorem dd_Mo_list_32 : decode bm_Mo_list 32 = .ok (.iaload, 1) := by decide +kernel
theorem dd_Mo_list_33 : decode bm_Mo_list 33 = .ok (.iadd, 1) := by decide +kernel
theorem dd_Mo_list_34 : decode bm_Mo_list 34 = .ok (.iload_n 2, 1) := by decide +kernel
theorem dd_Mo_list_35 : decode bm_Mo_list 35 = .ok (.iastore, 1) := by decide +kernel
theorem dd_Mo_list_36 : decode bm_Mo_list 36 = .ok (.aload_n 0, 1) := by decide +kernel
theorem dd_Mo_list_37 : decode bm_Mo_list 37 = .ok (.getfield 26, 3) := by decide +kernel
theorem dd_Mo_list_40 : decode bm_Mo_list 40 = .ok (.sipush 128, 3) := by decide +kernel
theorem dd_Mo_list_43 : decode bm_Mo_list 43 = .ok (.iload 4, 2) := by decide +kernel
theorem dd_Mo_list_45 : decode bm_Mo_list 45 = .ok (.imul, 1) := by decide +kernel
theorem dd_Mo_list_46 : decode bm_Mo_list 46 = .ok (.aload_n 0, 1) := by decide +kernel
theorem dd_Mo_list_47 : decode bm_Mo_list 47 = .ok (.getfield 20, 3) := by decide +kernel
theorem dd_Mo_list_50 : decode bm_Mo_list 50 = .ok (.iload 4, 2) := by decide +kernel
theorem dd_Mo_list_52 : decode bm_Mo_list 52 = .ok (.iaload, 1) := by decide +kernel
theorem dd_Mo_list_53 : decode bm_Mo_list 53 = .ok (.iadd, 1) := by decide +kernel
theorem dd_Mo_list_54 : decode bm_Mo_list 54 = .ok (.iload_n 3, 1) := by decide +kernel
theorem dd_Mo_list_55 : decode bm_Mo_list 55 = .ok (.iastore, 1) := by decide +kernel
theorem dd_Mo_list_56 : decode bm_Mo_list 56 = .ok (.aload_n 0, 1) := by decide +kernel
theorem dd_Mo_list_57 : decode bm_Mo_list 57 = .ok (.getfield 20, 3) := by decide +kernel
theorem dd_Mo_list_60 : decode bm_Mo_list 60 = .ok (.iload 4, 2) := by decide +kernel
theorem dd_Mo_list_62 : decode bm_Mo_list 62 = .ok (.dup2, 1) := by decide +kernel
theorem dd_Mo_list_63 : decode bm_Mo_list 63 = .ok (.iaload, 1) := by decide +kernel
theorem dd_Mo_list_64 : decode bm_Mo_list 64 = .ok (.iconst 1, 1) := by decide +kernel
theorem dd_Mo_list_65 : decode bm_Mo_list 65 = .ok (.iadd, 1) := by decide +kernel
theorem dd_Mo_list_66 : decode bm_Mo_list 66 = .ok (.iastore, 1) := by decide +kernel
theorem dd_Mo_list_67 : decode bm_Mo_list 67 = .ok (.return_, 1) := by decide +kernel
theorem dd_Mo_tick_0 : decode bm_Mo_tick 0 = .ok (.iload_n 1, 1) := by decide +kernel
theorem dd_Mo_tick_1 : decode bm_Mo_tick 1 = .ok (.iconst 0, 1) := by decide +kernel
theorem dd_Mo_tick_2 : decode bm_Mo_tick 2 = .ok (.iconst 1, 1) := by decide +kernel
theorem dd_Mo_tick_3 : decode bm_Mo_tick 3 = .ok (.invokestatic 91, 3) := by decide +kernel
theorem dd_Mo_tick_6 : decode bm_Mo_tick 6 = .ok (.ifCond .eq 5, 3) := by decide +kernel
theorem dd_Mo_tick_9 : decode bm_Mo_tick 9 = .ok (.iconst (-1), 1) := by decide +kernel
theorem dd_Mo_tick_10 : decode bm_Mo_tick 10 = .ok (.ireturn, 1) := by decide +kernel
theorem dd_Mo_tick_11 : decode bm_Mo_tick 11 = .ok (.aload_n 0, 1) := by decide +kernel
theorem dd_Mo_tick_12 : decode bm_Mo_tick 12 = .ok (.getfield 7, 3) := by decide +kernel
theorem dd_Mo_tick_15 : decode bm_Mo_tick 15 = .ok (.iload_n 1, 1) := by decide +kernel
theorem dd_Mo_tick_16 : decode bm_Mo_tick 16 = .ok (.dup2, 1) := by decide +kernel
theorem dd_Mo_tick_17 : decode bm_Mo_tick 17 = .ok (.iaload, 1) := by decide +kernel
theorem dd_Mo_tick_18 : decode bm_Mo_tick 18 = .ok (.iconst 1, 1) := by decide +kernel
theorem dd_Mo_tick_19 : decode bm_Mo_tick 19 = .ok (.iadd, 1) := by decide +kernel
theorem dd_Mo_tick_20 : decode bm_Mo_tick 20 = .ok (.iastore, 1) := by decide +kernel
theorem dd_Mo_tick_21 : decode bm_Mo_tick 21 = .ok (.aload_n 0, 1) := by decide +kernel
theorem dd_Mo_tick_22 : decode bm_Mo_tick 22 = .ok (.getfield 20, 3) := by decide +kernel
theorem dd_Mo_tick_25 : decode bm_Mo_tick 25 = .ok (.bipush 8, 2) := by decide +kernel
theorem dd_Mo_tick_27 : decode bm_Mo_tick 27 = .ok (.iload_n 1, 1) := by decide +kernel
theorem dd_Mo_tick_28 : decode bm_Mo_tick 28 = .ok (.imul, 1) := by decide +kernel
theorem dd_Mo_tick_29 : decode bm_Mo_tick 29 = .ok (.aload_n 0, 1) := by decide +kernel
theorem dd_Mo_tick_30 : decode bm_Mo_tick 30 = .ok (.getfield 7, 3) := by decide +kernel
theorem dd_Mo_tick_33 : decode bm_Mo_tick 33 = .ok (.iload_n 1, 1) := by decide +kernel
theorem dd_Mo_tick_34 : decode bm_Mo_tick 34 = .ok (.iaload, 1) := by decide +kernel
theorem dd_Mo_tick_35 : decode bm_Mo_tick 35 = .ok (.bipush 8, 2) := by decide +kernel
theorem dd_Mo_tick_37 : decode bm_Mo_tick 37 = .ok (.irem, 1) := by decide +kernel
theorem dd_Mo_tick_38 : decode bm_Mo_tick 38 = .ok (.iadd, 1) := by decide +kernel
theorem dd_Mo_tick_39 : decode bm_Mo_tick 39 = .ok (.iconst 0, 1) := by decide +kernel
theorem dd_Mo_tick_40 : decode bm_Mo_tick 40 = .ok (.iastore, 1) := by decide +kernel
theorem dd_Mo_tick_41 : decode bm_Mo_tick 41 = .ok (.iconst 0, 1) := by decide +kernel
theorem dd_Mo_tick_42 : decode bm_Mo_tick 42 = .ok (.istore_n 2, 1) := by decide +kernel
theorem dd_Mo_tick_43 : decode bm_Mo_tick 43 = .ok (.iload_n 2, 1) := by decide +kernel
theorem dd_Mo_tick_44 : decode bm_Mo_tick 44 = .ok (.iconst 3, 1) := by decide +kernel
theorem dd_Mo_tick_45 : decode bm_Mo_tick 45 = .ok (.if_icmp .ge 63, 3) := by decide +kernel
theorem dd_Mo_tick_48 : decode bm_Mo_tick 48 = .ok (.aload_n 0, 1) := by decide +kernel
theorem dd_Mo_tick_49 : decode bm_Mo_tick 49 = .ok (.getfield 29, 3) := by decide +kernel
theorem dd_Mo_tick_52 : decode bm_Mo_tick 52 = .ok (.iconst 3, 1) := by decide +kernel
theorem dd_Mo_tick_53 : decode bm_Mo_tick 53 = .ok (.iload_n 1, 1) := by decide +kernel
theorem dd_Mo_tick_54 : decode bm_Mo_tick 54 = .ok (.imul, 1) := by decide +kernel
theorem dd_Mo_tick_55 : decode bm_Mo_tick 55 = .ok (.iload_n 2, 1) := by decide +kernel
theorem dd_Mo_tick_56 : decode bm_Mo_tick 56 = .ok (.iadd, 1) := by decide +kernel
theorem dd_Mo_tick_57 : decode bm_Mo_tick 57 = .ok (.iaload, 1) := by decide +kernel
theorem dd_Mo_tick_58 : decode bm_Mo_tick 58 = .ok (.ifCond .le 44, 3) := by decide +kernel
theorem dd_Mo_tick_61 : decode bm_Mo_tick 61 = .ok (.aload_n 0, 1) := by decide +kernel
theorem dd_Mo_tick_62 : decode bm_Mo_tick 62 = .ok (.iload_n 1, 1) := by decide +kernel
theorem dd_Mo_tick_63 : decode bm_Mo_tick 63 = .ok (.sipush 4096, 3) := by decide +kernel
theorem dd_Mo_tick_66 : decode bm_Mo_tick 66 = .ok (.iload_n 2, 1) := by decide +kernel
theorem dd_Mo_tick_67 : decode bm_Mo_tick 67 = .ok (.iadd, 1) := by decide +kernel
theorem dd_Mo_tick_68 : decode bm_Mo_tick 68 = .ok (.iconst 2, 1) := by decide +kernel
theorem dd_Mo_tick_69 : decode bm_Mo_tick 69 = .ok (.aload_n 0, 1) := by decide +kernel
theorem dd_Mo_tick_70 : decode bm_Mo_tick 70 = .ok (.getfield 29, 3) := by decide +kernel
theorem dd_Mo_tick_73 : decode bm_Mo_tick 73 = .ok (.iconst 3, 1) := by decide +kernel
theorem dd_Mo_tick_74 : decode bm_Mo_tick 74 = .ok (.iload_n 1, 1) := by decide +kernel
theorem dd_Mo_tick_75 : decode bm_Mo_tick 75 = .ok (.imul, 1) := by decide +kernel
theorem dd_Mo_tick_76 : decode bm_Mo_tick 76 = .ok (.iload_n 2, 1) := by decide +kernel
theorem dd_Mo_tick_77 : decode bm_Mo_tick 77 = .ok (.iadd, 1) := by decide +kernel
theorem dd_Mo_tick_78 : decode bm_Mo_tick 78 = .ok (.iaload, 1) := by decide +kernel
theorem dd_Mo_tick_79 : decode bm_Mo_tick 79 = .ok (.imul, 1) := by decide +kernel
theorem dd_Mo_tick_80 : decode bm_Mo_tick 80 = .ok (.aload_n 0, 1) := by decide +kernel
theorem dd_Mo_tick_81 : decode bm_Mo_tick 81 = .ok (.getfield 32, 3) := by decide +kernel
theorem dd_Mo_tick_84 : decode bm_Mo_tick 84 = .ok (.iconst 3, 1) := by decide +kernel
theorem dd_Mo_tick_85 : decode bm_Mo_tick 85 = .ok (.iload_n 1, 1) := by decide +kernel
theorem dd_Mo_tick_86 : decode bm_Mo_tick 86 = .ok (.imul, 1) := by decide +kernel
theorem dd_Mo_tick_87 : decode bm_Mo_tick 87 = .ok (.iload_n 2, 1) := by decide +kernel
theorem dd_Mo_tick_88 : decode bm_Mo_tick 88 = .ok (.iadd, 1) := by decide +kernel
theorem dd_Mo_tick_89 : decode bm_Mo_tick 89 = .ok (.baload, 1) := by decide +kernel
theorem dd_Mo_tick_90 : decode bm_Mo_tick 90 = .ok (.ifCond .eq 7, 3) := by decide +kernel
theorem dd_Mo_tick_93 : decode bm_Mo_tick 93 = .ok (.iconst 1, 1) := by decide +kernel
theorem dd_Mo_tick_94 : decode bm_Mo_tick 94 = .ok (.goto 4, 3) := by decide +kernel
theorem dd_Mo_tick_97 : decode bm_Mo_tick 97 = .ok (.iconst 0, 1) := by decide +kernel
theorem dd_Mo_tick_98 : decode bm_Mo_tick 98 = .ok (.iadd, 1) := by decide +kernel
theorem dd_Mo_tick_99 : decode bm_Mo_tick 99 = .ok (.invokevirtual 95, 3) := by decide +kernel
theorem dd_Mo_tick_102 : decode bm_Mo_tick 102 = .ok (.iinc 2 1, 3) := by decide +kernel
theorem dd_Mo_tick_105 : decode bm_Mo_tick 105 = .ok (.goto (-62), 3) := by decide +kernel
theorem dd_Mo_tick_108 : decode bm_Mo_tick 108 = .ok (.iconst 0, 1) := by decide +kernel
theorem dd_Mo_tick_109 : decode bm_Mo_tick 109 = .ok (.istore_n 2, 1) := by decide +kernel
theorem dd_Mo_tick_110 : decode bm_Mo_tick 110 = .ok (.iload_n 2, 1) := by decide +kernel
theorem dd_Mo_tick_111 : decode bm_Mo_tick 111 = .ok (.iconst 3, 1) := by decide +kernel
theorem dd_Mo_tick_112 : decode bm_Mo_tick 112 = .ok (.if_icmp .ge 55, 3) := by decide +kernel
theorem dd_Mo_tick_115 : decode bm_Mo_tick 115 = .ok (.aload_n 0, 1) := by decide +kernel
theorem dd_Mo_tick_116 : decode bm_Mo_tick 116 = .ok (.getfield 29, 3) := by decide +kernel
theorem dd_Mo_tick_119 : decode bm_Mo_tick 119 = .ok (.iconst 3, 1) := by decide +kernel
theorem dd_Mo_tick_120 : decode bm_Mo_tick 120 = .ok (.iload_n 1, 1) := by decide +kernel
theorem dd_Mo_tick_121 : decode bm_Mo_tick 121 = .ok (.imul, 1) := by decide +kernel
theorem dd_Mo_tick_122 : decode bm_Mo_tick 122 = .ok (.iload_n 2, 1) := by decide +kernel
theorem dd_Mo_tick_123 : decode bm_Mo_tick 123 = .ok (.iadd, 1) := by decide +kernel
theorem dd_Mo_tick_124 : decode bm_Mo_tick 124 = .ok (.iaload, 1) := by decide +kernel
theorem dd_Mo_tick_125 : decode bm_Mo_tick 125 = .ok (.ifCond .le 36, 3) := by decide +kernel
theorem dd_Mo_tick_128 : decode bm_Mo_tick 128 = .ok (.aload_n 0, 1) := by decide +kernel
theorem dd_Mo_tick_129 : decode bm_Mo_tick 129 = .ok (.getfield 32, 3) := by decide +kernel
theorem dd_Mo_tick_132 : decode bm_Mo_tick 132 = .ok (.iconst 3, 1) := by decide +kernel
theorem dd_Mo_tick_133 : decode bm_Mo_tick 133 = .ok (.iload_n 1, 1) := by decide +kernel
theorem dd_Mo_tick_134 : decode bm_Mo_tick 134 = .ok (.imul, 1) := by decide +kernel
theorem dd_Mo_tick_135 : decode bm_Mo_tick 135 = .ok (.iload_n 2, 1) := by decide +kernel
theorem dd_Mo_tick_136 : decode bm_Mo_tick 136 = .ok (.iadd, 1) := by decide +kernel
theorem dd_Mo_tick_137 : decode bm_Mo_tick 137 = .ok (.baload, 1) := by decide +kernel
theorem dd_Mo_tick_138 : decode bm_Mo_tick 138 = .ok (.ifCond .eq 23, 3) := by decide +kernel
theorem dd_Mo_tick_141 : decode bm_Mo_tick 141 = .ok (.aload_n 0, 1) := by decide +kernel
theorem dd_Mo_tick_142 : decode bm_Mo_tick 142 = .ok (.iload_n 1, 1) := by decide +kernel
theorem dd_Mo_tick_143 : decode bm_Mo_tick 143 = .ok (.sipush 8192, 3) := by decide +kernel
theorem dd_Mo_tick_146 : decode bm_Mo_tick 146 = .ok (.iload_n 2, 1) := by decide +kernel
theorem dd_Mo_tick_147 : decode bm_Mo_tick 147 = .ok (.iadd, 1) := by decide +kernel
theorem dd_Mo_tick_148 : decode bm_Mo_tick 148 = .ok (.aload_n 0, 1) := by decide +kernel
theorem dd_Mo_tick_149 : decode bm_Mo_tick 149 = .ok (.getfield 38, 3) := by decide +kernel
theorem dd_Mo_tick_152 : decode bm_Mo_tick 152 = .ok (.iconst 3, 1) := by decide +kernel
theorem dd_Mo_tick_153 : decode bm_Mo_tick 153 = .ok (.iload_n 1, 1) := by decide +kernel
theorem dd_Mo_tick_154 : decode bm_Mo_tick 154 = .ok (.imul, 1) := by decide +kernel
theorem dd_Mo_tick_155 : decode bm_Mo_tick 155 = .ok (.iload_n 2, 1) := by decide +kernel
theorem dd_Mo_tick_156 : decode bm_Mo_tick 156 = .ok (.iadd, 1) := by decide +kernel
theorem dd_Mo_tick_157 : decode bm_Mo_tick 157 = .ok (.iaload, 1) := by decide +kernel
theorem dd_Mo_tick_158 : decode bm_Mo_tick 158 = .ok (.invokevirtual 95, 3) := by decide +kernel
theorem dd_Mo_tick_161 : decode bm_Mo_tick 161 = .ok (.iinc 2 1, 3) := by decide +kernel
theorem dd_Mo_tick_164 : decode bm_Mo_tick 164 = .ok (.goto (-54), 3) := by decide +kernel
theorem dd_Mo_tick_167 : decode bm_Mo_tick 167 = .ok (.iconst 0, 1) := by decide +kernel
theorem dd_Mo_tick_168 : decode bm_Mo_tick 168 = .ok (.istore_n 2, 1) := by decide +kernel
theorem dd_Mo_tick_169 : decode bm_Mo_tick 169 = .ok (.iload_n 2, 1) := by decide +kernel
theorem dd_Mo_tick_170 : decode bm_Mo_tick 170 = .ok (.iconst 3, 1) := by decide +kernel
theorem dd_Mo_tick_171 : decode bm_Mo_tick 171 = .ok (.if_icmp .ge 47, 3) := by decide +kernel
theorem dd_Mo_tick_174 : decode bm_Mo_tick 174 = .ok (.iconst 0, 1) := by decide +kernel
theorem dd_Mo_tick_175 : decode bm_Mo_tick 175 = .ok (.istore_n 3, 1) := by decide +kernel
theorem dd_Mo_tick_176 : decode bm_Mo_tick 176 = .ok (.iload_n 3, 1) := by decide +kernel
theorem dd_Mo_tick_177 : decode bm_Mo_tick 177 = .ok (.iconst 3, 1) := by decide +kernel
theorem dd_Mo_tick_178 : decode bm_Mo_tick 178 = .ok (.if_icmp .ge 34, 3) := by decide +kernel
theorem dd_Mo_tick_181 : decode bm_Mo_tick 181 = .ok (.iconst 1, 1) := by decide +kernel
theorem dd_Mo_tick_182 : decode bm_Mo_tick 182 = .ok (.istore 4, 2) := by decide +kernel
theorem dd_Mo_tick_184 : decode bm_Mo_tick 184 = .ok (.iload 4, 2) := by decide +kernel
theorem dd_Mo_tick_186 : decode bm_Mo_tick 186 = .ok (.bipush 13, 2) := by decide +kernel
theorem dd_Mo_tick_188 : decode bm_Mo_tick 188 = .ok (.if_icmp .ge 18, 3) := by decide +kernel
theorem dd_Mo_tick_191 : decode bm_Mo_tick 191 = .ok (.aload_n 0, 1) := by decide +kernel
theorem dd_Mo_tick_192 : decode bm_Mo_tick 192 = .ok (.iload_n 1, 1) := by decide +kernel
theorem dd_Mo_tick_193 : decode bm_Mo_tick 193 = .ok (.iload_n 2, 1) := by decide +kernel
theorem dd_Mo_tick_194 : decode bm_Mo_tick 194 = .ok (.iload_n 3, 1) := by decide +kernel
theorem dd_Mo_tick_195 : decode bm_Mo_tick 195 = .ok (.iload 4, 2) := by decide +kernel
theorem dd_Mo_tick_197 : decode bm_Mo_tick 197 = .ok (.invokevirtual 99, 3) := by decide +kernel
theorem dd_Mo_tick_200 : decode bm_Mo_tick 200 = .ok (.iinc 4 1, 3) := by decide +kernel
theorem dd_Mo_tick_203 : decode bm_Mo_tick 203 = .ok (.goto (-19), 3) := by decide +kernel
theorem dd_Mo_tick_206 : decode bm_Mo_tick 206 = .ok (.iinc 3 1, 3) := by decide +kernel
theorem dd_Mo_tick_209 : decode bm_Mo_tick 209 = .ok (.goto (-33), 3) := by decide +kernel
theorem dd_Mo_tick_212 : decode bm_Mo_tick 212 = .ok (.iinc 2 1, 3) := by decide +kernel
theorem dd_Mo_tick_215 : decode bm_Mo_tick 215 = .ok (.goto (-46), 3) := by decide +kernel
theorem dd_Mo_tick_218 : decode bm_Mo_tick 218 = .ok (.aload_n 0, 1) := by decide +kernel
theorem dd_Mo_tick_219 : decode bm_Mo_tick 219 = .ok (.getfield 7, 3) := by decide +kernel
theorem dd_Mo_tick_222 : decode bm_Mo_tick 222 = .ok (.iload_n 1, 1) := by decide +kernel
theorem dd_Mo_tick_223 : decode bm_Mo_tick 223 = .ok (.iaload, 1) := by decide +kernel
theorem dd_Mo_tick_224 : decode bm_Mo_tick 224 = .ok (.ireturn, 1) := by decide +kernel
theorem dd_Mo_listPacket_0 : decode bm_Mo_listPacket 0 = .ok (.bipush 13, 2) := by decide +kernel
theorem dd_Mo_listPacket_2 : decode bm_Mo_listPacket 2 = .ok (.iconst 3, 1) := by decide +kernel
theorem dd_Mo_listPacket_3 : decode bm_Mo_listPacket 3 = .ok (.iload_n 1, 1) := by decide +kernel
theorem dd_Mo_listPacket_4 : decode bm_Mo_listPacket 4 = .ok (.imul, 1) := by decide +kernel
theorem dd_Mo_listPacket_5 : decode bm_Mo_listPacket 5 = .ok (.iload_n 3, 1) := by decide +kernel
theorem dd_Mo_listPacket_6 : decode bm_Mo_listPacket 6 = .ok (.iadd, 1) := by decide +kernel
theorem dd_Mo_listPacket_7 : decode bm_Mo_listPacket 7 = .ok (.imul, 1) := by decide +kernel
theorem dd_Mo_listPacket_8 : decode bm_Mo_listPacket 8 = .ok (.iload 4, 2) := by decide +kernel
theorem dd_Mo_listPacket_10 : decode bm_Mo_listPacket 10 = .ok (.iadd, 1) := by decide +kernel
theorem dd_Mo_listPacket_11 : decode bm_Mo_listPacket 11 = .ok (.istore 5, 2) := by decide +kernel
theorem dd_Mo_listPacket_13 : decode bm_Mo_listPacket 13 = .ok (.bipush 13, 2) := by decide +kernel
theorem dd_Mo_listPacket_15 : decode bm_Mo_listPacket 15 = .ok (.iconst 3, 1) := by decide +kernel
theorem dd_Mo_listPacket_16 : decode bm_Mo_listPacket 16 = .ok (.iconst 1, 1) := by decide +kernel
theorem dd_Mo_listPacket_17 : decode bm_Mo_listPacket 17 = .ok (.iload_n 1, 1) := by decide +kernel
theorem dd_Mo_listPacket_18 : decode bm_Mo_listPacket 18 = .ok (.isub, 1) := by decide +kernel
theorem dd_Mo_listPacket_19 : decode bm_Mo_listPacket 19 = .ok (.imul, 1) := by decide +kernel
theorem dd_Mo_listPacket_20 : decode bm_Mo_listPacket 20 = .ok (.iload_n 3, 1) := by decide +kernel
theorem dd_Mo_listPacket_21 : decode bm_Mo_listPacket 21 = .ok (.iadd, 1) := by decide +kernel
theorem dd_Mo_listPacket_22 : decode bm_Mo_listPacket 22 = .ok (.imul, 1) := by decide +kernel
theorem dd_Mo_listPacket_23 : decode bm_Mo_listPacket 23 = .ok (.iload 4, 2) := by decide +kernel
theorem dd_Mo_listPacket_25 : decode bm_Mo_listPacket 25 = .ok (.iadd, 1) := by decide +kernel
theorem dd_Mo_listPacket_26 : decode bm_Mo_listPacket 26 = .ok (.istore 6, 2) := by decide +kernel
theorem dd_Mo_listPacket_28 : decode bm_Mo_listPacket 28 = .ok (.iload_n 2, 1) := by decide +kernel
theorem dd_Mo_listPacket_29 : decode bm_Mo_listPacket 29 = .ok (.ifCond .ne 57, 3) := by decide +kernel
theorem dd_Mo_listPacket_32 : decode bm_Mo_listPacket 32 = .ok (.iload 4, 2) := by decide +kernel
theorem dd_Mo_listPacket_34 : decode bm_Mo_listPacket 34 = .ok (.aload_n 0, 1) := by decide +kernel
theorem dd_Mo_listPacket_35 : decode bm_Mo_listPacket 35 = .ok (.getfield 35, 3) := by decide +kernel
theorem dd_Mo_listPacket_38 : decode bm_Mo_listPacket 38 = .ok (.iconst 3, 1) := by decide +kernel
theorem dd_Mo_listPacket_39 : decode bm_Mo_listPacket 39 = .ok (.iload_n 1, 1) := by decide +kernel
theorem dd_Mo_listPacket_40 : decode bm_Mo_listPacket 40 = .ok (.imul, 1) := by decide +kernel
theorem dd_Mo_listPacket_41 : decode bm_Mo_listPacket 41 = .ok (.iload_n 3, 1) := by decide +kernel
theorem dd_Mo_listPacket_42 : decode bm_Mo_listPacket 42 = .ok (.iadd, 1) := by decide +kernel
theorem dd_Mo_listPacket_43 : decode bm_Mo_listPacket 43 = .ok (.iaload, 1) := by decide +kernel
theorem dd_Mo_listPacket_44 : decode bm_Mo_listPacket 44 = .ok (.if_icmp .gt 42, 3) := by decide +kernel
theorem dd_Mo_listPacket_47 : decode bm_Mo_listPacket 47 = .ok (.aload_n 0, 1) := by decide +kernel
theorem dd_Mo_listPacket_48 : decode bm_Mo_listPacket 48 = .ok (.getfield 59, 3) := by decide +kernel
theorem dd_Mo_listPacket_51 : decode bm_Mo_listPacket 51 = .ok (.iload 5, 2) := by decide +kernel
theorem dd_Mo_listPacket_53 : decode bm_Mo_listPacket 53 = .ok (.iaload, 1) := by decide +kernel
theorem dd_Mo_listPacket_54 : decode bm_Mo_listPacket 54 = .ok (.ifCond .ne 32, 3) := by decide +kernel
theorem dd_Mo_listPacket_57 : decode bm_Mo_listPacket 57 = .ok (.aload_n 0, 1) := by decide +kernel
theorem dd_Mo_listPacket_58 : decode bm_Mo_listPacket 58 = .ok (.iload_n 1, 1) := by decide +kernel
theorem dd_Mo_listPacket_59 : decode bm_Mo_listPacket 59 = .ok (.sipush 12288, 3) := by decide +kernel
theorem dd_Mo_listPacket_62 : decode bm_Mo_listPacket 62 = .ok (.bipush 64, 2) := by decide +kernel
theorem dd_Mo_listPacket_64 : decode bm_Mo_listPacket 64 = .ok (.iload_n 3, 1) := by decide +kernel
theorem dd_Mo_listPacket_65 : decode bm_Mo_listPacket 65 = .ok (.imul, 1) := by decide +kernel
theorem dd_Mo_listPacket_66 : decode bm_Mo_listPacket 66 = .ok (.iadd, 1) := by decide +kernel
theorem dd_Mo_listPacket_67 : decode bm_Mo_listPacket 67 = .ok (.iload 4, 2) := by decide +kernel
theorem dd_Mo_listPacket_69 : decode bm_Mo_listPacket 69 = .ok (.iadd, 1) := by decide +kernel
theorem dd_Mo_listPacket_70 : decode bm_Mo_listPacket 70 = .ok (.aload_n 0, 1) := by decide +kernel
theorem dd_Mo_listPacket_71 : decode bm_Mo_listPacket 71 = .ok (.iload 5, 2) := by decide +kernel
theorem dd_Mo_listPacket_73 : decode bm_Mo_listPacket 73 = .ok (.aload_n 0, 1) := by decide +kernel
theorem dd_Mo_listPacket_74 : decode bm_Mo_listPacket 74 = .ok (.getfield 47, 3) := by decide +kernel
theorem dd_Mo_listPacket_77 : decode bm_Mo_listPacket 77 = .ok (.iload 5, 2) := by decide +kernel
theorem dd_Mo_listPacket_79 : decode bm_Mo_listPacket 79 = .ok (.iaload, 1) := by decide +kernel
theorem dd_Mo_listPacket_80 : decode bm_Mo_listPacket 80 = .ok (.invokevirtual 103, 3) := by decide +kernel
theorem dd_Mo_listPacket_83 : decode bm_Mo_listPacket 83 = .ok (.invokevirtual 95, 3) := by decide +kernel
theorem dd_Mo_listPacket_86 : decode bm_Mo_listPacket 86 = .ok (.iload_n 2, 1) := by decide +kernel
theorem dd_Mo_listPacket_87 : decode bm_Mo_listPacket 87 = .ok (.iconst 1, 1) := by decide +kernel
theorem dd_Mo_listPacket_88 : decode bm_Mo_listPacket 88 = .ok (.if_icmp .ne 43, 3) := by decide +kernel
theorem dd_Mo_listPacket_91 : decode bm_Mo_listPacket 91 = .ok (.aload_n 0, 1) := by decide +kernel
theorem dd_Mo_listPacket_92 : decode bm_Mo_listPacket 92 = .ok (.getfield 62, 3) := by decide +kernel
theorem dd_Mo_listPacket_95 : decode bm_Mo_listPacket 95 = .ok (.iload 6, 2) := by decide +kernel
theorem dd_Mo_listPacket_97 : decode bm_Mo_listPacket 97 = .ok (.iaload, 1) := by decide +kernel
theorem dd_Mo_listPacket_98 : decode bm_Mo_listPacket 98 = .ok (.ifCond .le 33, 3) := by decide +kernel
theorem dd_Mo_listPacket_101 : decode bm_Mo_listPacket 101 = .ok (.aload_n 0, 1) := by decide +kernel
theorem dd_Mo_listPacket_102 : decode bm_Mo_listPacket 102 = .ok (.getfield 32, 3) := by decide +kernel
theorem dd_Mo_listPacket_105 : decode bm_Mo_listPacket 105 = .ok (.iconst 3, 1) := by decide +kernel
theorem dd_Mo_listPacket_106 : decode bm_Mo_listPacket 106 = .ok (.iload_n 1, 1) := by decide +kernel
theorem dd_Mo_listPacket_107 : decode bm_Mo_listPacket 107 = .ok (.imul, 1) := by decide +kernel
theorem dd_Mo_listPacket_108 : decode bm_Mo_listPacket 108 = .ok (.iload_n 3, 1) := by decide +kernel
theorem dd_Mo_listPacket_109 : decode bm_Mo_listPacket 109 = .ok (.iadd, 1) := by decide +kernel
theorem dd_Mo_listPacket_110 : decode bm_Mo_listPacket 110 = .ok (.baload, 1) := by decide +kernel
theorem dd_Mo_listPacket_111 : decode bm_Mo_listPacket 111 = .ok (.ifCond .ne 20, 3) := by decide +kernel
theorem dd_Mo_listPacket_114 : decode bm_Mo_listPacket 114 = .ok (.aload_n 0, 1) := by decide +kernel
theorem dd_Mo_listPacket_115 : decode bm_Mo_listPacket 115 = .ok (.iload_n 1, 1) := by decide +kernel
theorem dd_Mo_listPacket_116 : decode bm_Mo_listPacket 116 = .ok (.sipush 16384, 3) := by decide +kernel
theorem dd_Mo_listPacket_119 : decode bm_Mo_listPacket 119 = .ok (.bipush 64, 2) := by decide +kernel
theorem dd_Mo_listPacket_121 : decode bm_Mo_listPacket 121 = .ok (.iload_n 3, 1) := by decide +kernel
theorem dd_Mo_listPacket_122 : decode bm_Mo_listPacket 122 = .ok (.imul, 1) := by decide +kernel
theorem dd_Mo_listPacket_123 : decode bm_Mo_listPacket 123 = .ok (.iadd, 1) := by decide +kernel
theorem dd_Mo_listPacket_124 : decode bm_Mo_listPacket 124 = .ok (.iload 4, 2) := by decide +kernel
theorem dd_Mo_listPacket_126 : decode bm_Mo_listPacket 126 = .ok (.iadd, 1) := by decide +kernel
theorem dd_Mo_listPacket_127 : decode bm_Mo_listPacket 127 = .ok (.iconst 1, 1) := by decide +kernel
theorem dd_Mo_listPacket_128 : decode bm_Mo_listPacket 128 = .ok (.invokevirtual 95, 3) := by decide +kernel
theorem dd_Mo_listPacket_131 : decode bm_Mo_listPacket 131 = .ok (.iload_n 2, 1) := by decide +kernel
theorem dd_Mo_listPacket_132 : decode bm_Mo_listPacket 132 = .ok (.iconst 2, 1) := by decide +kernel
theorem dd_Mo_listPacket_133 : decode bm_Mo_listPacket 133 = .ok (.if_icmp .ne 36, 3) := by decide +kernel
theorem dd_Mo_listPacket_136 : decode bm_Mo_listPacket 136 = .ok (.aload_n 0, 1) := by decide +kernel
theorem dd_Mo_listPacket_137 : decode bm_Mo_listPacket 137 = .ok (.getfield 62, 3) := by decide +kernel
theorem dd_Mo_listPacket_140 : decode bm_Mo_listPacket 140 = .ok (.iload 6, 2) := by decide +kernel
theorem dd_Mo_listPacket_142 : decode bm_Mo_listPacket 142 = .ok (.iaload, 1) := by decide +kernel
theorem dd_Mo_listPacket_143 : decode bm_Mo_listPacket 143 = .ok (.ifCond .le 26, 3) := by decide +kernel
theorem dd_Mo_listPacket_146 : decode bm_Mo_listPacket 146 = .ok (.aload_n 0, 1) := by decide +kernel
theorem dd_Mo_listPacket_147 : decode bm_Mo_listPacket 147 = .ok (.iload_n 1, 1) := by decide +kernel
theorem dd_Mo_listPacket_148 : decode bm_Mo_listPacket 148 = .ok (.sipush 20480, 3) := by decide +kernel
theorem dd_Mo_listPacket_151 : decode bm_Mo_listPacket 151 = .ok (.bipush 64, 2) := by decide +kernel
theorem dd_Mo_listPacket_153 : decode bm_Mo_listPacket 153 = .ok (.iload_n 3, 1) := by decide +kernel
theorem dd_Mo_listPacket_154 : decode bm_Mo_listPacket 154 = .ok (.imul, 1) := by decide +kernel
theorem dd_Mo_listPacket_155 : decode bm_Mo_listPacket 155 = .ok (.iadd, 1) := by decide +kernel
theorem dd_Mo_listPacket_156 : decode bm_Mo_listPacket 156 = .ok (.iload 4, 2) := by decide +kernel
theorem dd_Mo_listPacket_158 : decode bm_Mo_listPacket 158 = .ok (.iadd, 1) := by decide +kernel
theorem dd_Mo_listPacket_159 : decode bm_Mo_listPacket 159 = .ok (.aload_n 0, 1) := by decide +kernel
theorem dd_Mo_listPacket_160 : decode bm_Mo_listPacket 160 = .ok (.getfield 62, 3) := by decide +kernel
theorem dd_Mo_listPacket_163 : decode bm_Mo_listPacket 163 = .ok (.iload 6, 2) := by decide +kernel
theorem dd_Mo_listPacket_165 : decode bm_Mo_listPacket 165 = .ok (.iaload, 1) := by decide +kernel
theorem dd_Mo_listPacket_166 : decode bm_Mo_listPacket 166 = .ok (.invokevirtual 95, 3) := by decide +kernel
theorem dd_Mo_listPacket_169 : decode bm_Mo_listPacket 169 = .ok (.return_, 1) := by decide +kernel
theorem dd_Mo_print_0 : decode bm_Mo_print 0 = .ok (.iconst 3, 1) := by decide +kernel
theorem dd_Mo_print_1 : decode bm_Mo_print 1 = .ok (.aload_n 0, 1) := by decide +kernel
theorem dd_Mo_print_2 : decode bm_Mo_print 2 = .ok (.getfield 44, 3) := by decide +kernel
theorem dd_Mo_print_5 : decode bm_Mo_print 5 = .ok (.iload_n 1, 1) := by decide +kernel
theorem dd_Mo_print_6 : decode bm_Mo_print 6 = .ok (.iaload, 1) := by decide +kernel
theorem dd_Mo_print_7 : decode bm_Mo_print 7 = .ok (.invokestatic 107, 3) := by decide +kernel
theorem dd_Mo_print_10 : decode bm_Mo_print 10 = .ok (.iload_n 2, 1) := by decide +kernel
theorem dd_Mo_print_11 : decode bm_Mo_print 11 = .ok (.invokestatic 107, 3) := by decide +kernel
theorem dd_Mo_print_14 : decode bm_Mo_print 14 = .ok (.aload_n 0, 1) := by decide +kernel
theorem dd_Mo_print_15 : decode bm_Mo_print 15 = .ok (.getfield 50, 3) := by decide +kernel
theorem dd_Mo_print_18 : decode bm_Mo_print 18 = .ok (.iload_n 1, 1) := by decide +kernel
theorem dd_Mo_print_19 : decode bm_Mo_print 19 = .ok (.iaload, 1) := by decide +kernel
theorem dd_Mo_print_20 : decode bm_Mo_print 20 = .ok (.invokestatic 107, 3) := by decide +kernel
theorem dd_Mo_print_23 : decode bm_Mo_print 23 = .ok (.aload_n 0, 1) := by decide +kernel
theorem dd_Mo_print_24 : decode bm_Mo_print 24 = .ok (.getfield 53, 3) := by decide +kernel
theorem dd_Mo_print_27 : decode bm_Mo_print 27 = .ok (.iload_n 1, 1) := by decide +kernel
theorem dd_Mo_print_28 : decode bm_Mo_print 28 = .ok (.iaload, 1) := by decide +kernel
theorem dd_Mo_print_29 : decode bm_Mo_print 29 = .ok (.invokestatic 107, 3) := by decide +kernel
theorem dd_Mo_print_32 : decode bm_Mo_print 32 = .ok (.aload_n 0, 1) := by decide +kernel
theorem dd_Mo_print_33 : decode bm_Mo_print 33 = .ok (.getfield 56, 3) := by decide +kernel
theorem dd_Mo_print_36 : decode bm_Mo_print 36 = .ok (.iload_n 1, 1) := by decide +kernel
theorem dd_Mo_print_37 : decode bm_Mo_print 37 = .ok (.iaload, 1) := by decide +kernel
theorem dd_Mo_print_38 : decode bm_Mo_print 38 = .ok (.invokestatic 107, 3) := by decide +kernel
theorem dd_Mo_print_41 : decode bm_Mo_print 41 = .ok (.ireturn, 1) := by decide +kernel
theorem dd_Mo_keeps_0 : decode bm_Mo_keeps 0 = .ok (.iload_n 2, 1) := by decide +kernel
theorem dd_Mo_keeps_1 : decode bm_Mo_keeps 1 = .ok (.iconst 1, 1) := by decide +kernel
theorem dd_Mo_keeps_2 : decode bm_Mo_keeps 2 = .ok (.if_icmp .lt 30, 3) := by decide +kernel
theorem dd_Mo_keeps_5 : decode bm_Mo_keeps 5 = .ok (.iload_n 2, 1) := by decide +kernel
theorem dd_Mo_keeps_6 : decode bm_Mo_keeps 6 = .ok (.aload_n 0, 1) := by decide +kernel
theorem dd_Mo_keeps_7 : decode bm_Mo_keeps 7 = .ok (.getfield 7, 3) := by decide +kernel
theorem dd_Mo_keeps_10 : decode bm_Mo_keeps 10 = .ok (.iload_n 1, 1) := by decide +kernel
theorem dd_Mo_keeps_11 : decode bm_Mo_keeps 11 = .ok (.iaload, 1) := by decide +kernel
theorem dd_Mo_keeps_12 : decode bm_Mo_keeps 12 = .ok (.if_icmp .gt 20, 3) := by decide +kernel
theorem dd_Mo_keeps_15 : decode bm_Mo_keeps 15 = .ok (.iload_n 2, 1) := by decide +kernel
theorem dd_Mo_keeps_16 : decode bm_Mo_keeps 16 = .ok (.aload_n 0, 1) := by decide +kernel
theorem dd_Mo_keeps_17 : decode bm_Mo_keeps 17 = .ok (.getfield 7, 3) := by decide +kernel
theorem dd_Mo_keeps_20 : decode bm_Mo_keeps 20 = .ok (.iload_n 1, 1) := by decide +kernel
theorem dd_Mo_keeps_21 : decode bm_Mo_keeps 21 = .ok (.iaload, 1) := by decide +kernel
theorem dd_Mo_keeps_22 : decode bm_Mo_keeps 22 = .ok (.bipush 8, 2) := by decide +kernel
theorem dd_Mo_keeps_24 : decode bm_Mo_keeps 24 = .ok (.isub, 1) := by decide +kernel
theorem dd_Mo_keeps_25 : decode bm_Mo_keeps 25 = .ok (.if_icmp .le 7, 3) := by decide +kernel
theorem dd_Mo_keeps_28 : decode bm_Mo_keeps 28 = .ok (.iconst 1, 1) := by decide +kernel
theorem dd_Mo_keeps_29 : decode bm_Mo_keeps 29 = .ok (.goto 4, 3) := by decide +kernel
theorem dd_Mo_keeps_32 : decode bm_Mo_keeps 32 = .ok (.iconst 0, 1) := by decide +kernel
theorem dd_Mo_keeps_33 : decode bm_Mo_keeps 33 = .ok (.ireturn, 1) := by decide +kernel
theorem dd_Mo_update_0 : decode bm_Mo_update 0 = .ok (.iload_n 1, 1) := by decide +kernel
theorem dd_Mo_update_1 : decode bm_Mo_update 1 = .ok (.iconst 0, 1) := by decide +kernel
theorem dd_Mo_update_2 : decode bm_Mo_update 2 = .ok (.iconst 1, 1) := by decide +kernel
theorem dd_Mo_update_3 : decode bm_Mo_update 3 = .ok (.invokestatic 91, 3) := by decide +kernel
theorem dd_Mo_update_6 : decode bm_Mo_update 6 = .ok (.ifCond .ne 19, 3) := by decide +kernel
theorem dd_Mo_update_9 : decode bm_Mo_update 9 = .ok (.iload_n 2, 1) := by decide +kernel
theorem dd_Mo_update_10 : decode bm_Mo_update 10 = .ok (.iconst 1, 1) := by decide +kernel
theorem dd_Mo_update_11 : decode bm_Mo_update 11 = .ok (.aload_n 0, 1) := by decide +kernel
theorem dd_Mo_update_12 : decode bm_Mo_update 12 = .ok (.getfield 7, 3) := by decide +kernel
theorem dd_Mo_update_15 : decode bm_Mo_update 15 = .ok (.iconst 1, 1) := by decide +kernel
theorem dd_Mo_update_16 : decode bm_Mo_update 16 = .ok (.iload_n 1, 1) := by decide +kernel
theorem dd_Mo_update_17 : decode bm_Mo_update 17 = .ok (.isub, 1) := by decide +kernel
theorem dd_Mo_update_18 : decode bm_Mo_update 18 = .ok (.iaload, 1) := by decide +kernel
theorem dd_Mo_update_19 : decode bm_Mo_update 19 = .ok (.invokestatic 91, 3) := by decide +kernel
theorem dd_Mo_update_22 : decode bm_Mo_update 22 = .ok (.ifCond .eq 5, 3) := by decide +kernel
theorem dd_Mo_update_25 : decode bm_Mo_update 25 = .ok (.iconst (-1), 1) := by decide +kernel
theorem dd_Mo_update_26 : decode bm_Mo_update 26 = .ok (.ireturn, 1) := by decide +kernel
theorem dd_Mo_update_27 : decode bm_Mo_update 27 = .ok (.iload_n 3, 1) := by decide +kernel
theorem dd_Mo_update_28 : decode bm_Mo_update 28 = .ok (.iconst 1, 1) := by decide +kernel
theorem dd_Mo_update_29 : decode bm_Mo_update 29 = .ok (.iand, 1) := by decide +kernel
theorem dd_Mo_update_30 : decode bm_Mo_update 30 = .ok (.iload_n 3, 1) := by decide +kernel
theorem dd_Mo_update_31 : decode bm_Mo_update 31 = .ok (.iconst 1, 1) := by decide +kernel
theorem dd_Mo_update_32 : decode bm_Mo_update 32 = .ok (.ishr, 1) := by decide +kernel
theorem dd_Mo_update_33 : decode bm_Mo_update 33 = .ok (.iconst 1, 1) := by decide +kernel
theorem dd_Mo_update_34 : decode bm_Mo_update 34 = .ok (.iand, 1) := by decide +kernel
theorem dd_Mo_update_35 : decode bm_Mo_update 35 = .ok (.iadd, 1) := by decide +kernel
theorem dd_Mo_update_36 : decode bm_Mo_update 36 = .ok (.iload_n 3, 1) := by decide +kernel
theorem dd_Mo_update_37 : decode bm_Mo_update 37 = .ok (.iconst 2, 1) := by decide +kernel
theorem dd_Mo_update_38 : decode bm_Mo_update 38 = .ok (.ishr, 1) := by decide +kernel
theorem dd_Mo_update_39 : decode bm_Mo_update 39 = .ok (.iconst 1, 1) := by decide +kernel
theorem dd_Mo_update_40 : decode bm_Mo_update 40 = .ok (.iand, 1) := by decide +kernel
theorem dd_Mo_update_41 : decode bm_Mo_update 41 = .ok (.iadd, 1) := by decide +kernel
theorem dd_Mo_update_42 : decode bm_Mo_update 42 = .ok (.iload_n 3, 1) := by decide +kernel
theorem dd_Mo_update_43 : decode bm_Mo_update 43 = .ok (.iconst 3, 1) := by decide +kernel
theorem dd_Mo_update_44 : decode bm_Mo_update 44 = .ok (.ishr, 1) := by decide +kernel
theorem dd_Mo_update_45 : decode bm_Mo_update 45 = .ok (.iconst 1, 1) := by decide +kernel
theorem dd_Mo_update_46 : decode bm_Mo_update 46 = .ok (.iand, 1) := by decide +kernel
theorem dd_Mo_update_47 : decode bm_Mo_update 47 = .ok (.iadd, 1) := by decide +kernel
theorem dd_Mo_update_48 : decode bm_Mo_update 48 = .ok (.istore 5, 2) := by decide +kernel
theorem dd_Mo_update_50 : decode bm_Mo_update 50 = .ok (.iload 4, 2) := by decide +kernel
theorem dd_Mo_update_52 : decode bm_Mo_update 52 = .ok (.ifCond .ne 9, 3) := by decide +kernel
theorem dd_Mo_update_55 : decode bm_Mo_update 55 = .ok (.iload 5, 2) := by decide +kernel
theorem dd_Mo_update_57 : decode bm_Mo_update 57 = .ok (.iconst 3, 1) := by decide +kernel
theorem dd_Mo_update_58 : decode bm_Mo_update 58 = .ok (.if_icmp .ge 6, 3) := by decide +kernel
theorem dd_Mo_update_61 : decode bm_Mo_update 61 = .ok (.bipush (-6), 2) := by decide +kernel
theorem dd_Mo_update_63 : decode bm_Mo_update 63 = .ok (.ireturn, 1) := by decide +kernel
theorem dd_Mo_update_64 : decode bm_Mo_update 64 = .ok (.aload_n 0, 1) := by decide +kernel
theorem dd_Mo_update_65 : decode bm_Mo_update 65 = .ok (.getfield 13, 3) := by decide +kernel
theorem dd_Mo_update_68 : decode bm_Mo_update 68 = .ok (.sipush 1100, 3) := by decide +kernel
theorem dd_Mo_update_71 : decode bm_Mo_update 71 = .ok (.iload_n 1, 1) := by decide +kernel
theorem dd_Mo_update_72 : decode bm_Mo_update 72 = .ok (.imul, 1) := by decide +kernel
theorem dd_Mo_update_73 : decode bm_Mo_update 73 = .ok (.iload_n 2, 1) := by decide +kernel
theorem dd_Mo_update_74 : decode bm_Mo_update 74 = .ok (.iadd, 1) := by decide +kernel
theorem dd_Mo_update_75 : decode bm_Mo_update 75 = .ok (.iconst 1, 1) := by decide +kernel
theorem dd_Mo_update_76 : decode bm_Mo_update 76 = .ok (.bastore, 1) := by decide +kernel
theorem dd_Mo_update_77 : decode bm_Mo_update 77 = .ok (.aload_n 0, 1) := by decide +kernel
theorem dd_Mo_update_78 : decode bm_Mo_update 78 = .ok (.getfield 17, 3) := by decide +kernel
theorem dd_Mo_update_81 : decode bm_Mo_update 81 = .ok (.iload_n 1, 1) := by decide +kernel
theorem dd_Mo_update_82 : decode bm_Mo_update 82 = .ok (.iload_n 2, 1) := by decide +kernel
theorem dd_Mo_update_83 : decode bm_Mo_update 83 = .ok (.aload_n 0, 1) := by decide +kernel
theorem dd_Mo_update_84 : decode bm_Mo_update 84 = .ok (.getfield 17, 3) := by decide +kernel
theorem dd_Mo_update_87 : decode bm_Mo_update 87 = .ok (.iload_n 1, 1) := by decide +kernel
theorem dd_Mo_update_88 : decode bm_Mo_update 88 = .ok (.iaload, 1) := by decide +kernel
theorem dd_Mo_update_89 : decode bm_Mo_update 89 = .ok (.if_icmp .le 7, 3) := by decide +kernel
theorem dd_Mo_update_92 : decode bm_Mo_update 92 = .ok (.iload_n 2, 1) := by decide +kernel
theorem dd_Mo_update_93 : decode bm_Mo_update 93 = .ok (.goto 9, 3) := by decide +kernel
theorem dd_Mo_update_96 : decode bm_Mo_update 96 = .ok (.aload_n 0, 1) := by decide +kernel
theorem dd_Mo_update_97 : decode bm_Mo_update 97 = .ok (.getfield 17, 3) := by decide +kernel
theorem dd_Mo_update_100 : decode bm_Mo_update 100 = .ok (.iload_n 1, 1) := by decide +kernel
theorem dd_Mo_update_101 : decode bm_Mo_update 101 = .ok (.iaload, 1) := by decide +kernel
theorem dd_Mo_update_102 : decode bm_Mo_update 102 = .ok (.iastore, 1) := by decide +kernel
theorem dd_Mo_update_103 : decode bm_Mo_update 103 = .ok (.iconst 0, 1) := by decide +kernel
theorem dd_Mo_update_104 : decode bm_Mo_update 104 = .ok (.ireturn, 1) := by decide +kernel
theorem dd_Mo_knows_0 : decode bm_Mo_knows 0 = .ok (.iload_n 1, 1) := by decide +kernel
theorem dd_Mo_knows_1 : decode bm_Mo_knows 1 = .ok (.iconst 0, 1) := by decide +kernel
theorem dd_Mo_knows_2 : decode bm_Mo_knows 2 = .ok (.iconst 1, 1) := by decide +kernel
theorem dd_Mo_knows_3 : decode bm_Mo_knows 3 = .ok (.invokestatic 91, 3) := by decide +kernel
theorem dd_Mo_knows_6 : decode bm_Mo_knows 6 = .ok (.ifCond .ne 33, 3) := by decide +kernel
theorem dd_Mo_knows_9 : decode bm_Mo_knows 9 = .ok (.iload_n 2, 1) := by decide +kernel
theorem dd_Mo_knows_10 : decode bm_Mo_knows 10 = .ok (.iconst 1, 1) := by decide +kernel
theorem dd_Mo_knows_11 : decode bm_Mo_knows 11 = .ok (.sipush 1099, 3) := by decide +kernel
theorem dd_Mo_knows_14 : decode bm_Mo_knows 14 = .ok (.invokestatic 91, 3) := by decide +kernel
theorem dd_Mo_knows_17 : decode bm_Mo_knows 17 = .ok (.ifCond .ne 22, 3) := by decide +kernel
theorem dd_Mo_knows_20 : decode bm_Mo_knows 20 = .ok (.aload_n 0, 1) := by decide +kernel
theorem dd_Mo_knows_21 : decode bm_Mo_knows 21 = .ok (.getfield 13, 3) := by decide +kernel
theorem dd_Mo_knows_24 : decode bm_Mo_knows 24 = .ok (.sipush 1100, 3) := by decide +kernel
theorem dd_Mo_knows_27 : decode bm_Mo_knows 27 = .ok (.iload_n 1, 1) := by decide +kernel
theorem dd_Mo_knows_28 : decode bm_Mo_knows 28 = .ok (.imul, 1) := by decide +kernel
theorem dd_Mo_knows_29 : decode bm_Mo_knows 29 = .ok (.iload_n 2, 1) := by decide +kernel
theorem dd_Mo_knows_30 : decode bm_Mo_knows 30 = .ok (.iadd, 1) := by decide +kernel
theorem dd_Mo_knows_31 : decode bm_Mo_knows 31 = .ok (.baload, 1) := by decide +kernel
theorem dd_Mo_knows_32 : decode bm_Mo_knows 32 = .ok (.ifCond .eq 7, 3) := by decide +kernel
theorem dd_Mo_knows_35 : decode bm_Mo_knows 35 = .ok (.iconst 1, 1) := by decide +kernel
theorem dd_Mo_knows_36 : decode bm_Mo_knows 36 = .ok (.goto 4, 3) := by decide +kernel
theorem dd_Mo_knows_39 : decode bm_Mo_knows 39 = .ok (.iconst 0, 1) := by decide +kernel
theorem dd_Mo_knows_40 : decode bm_Mo_knows 40 = .ok (.ireturn, 1) := by decide +kernel
theorem dd_Mo_proof_0 : decode bm_Mo_proof 0 = .ok (.iconst 1, 1) := by decide +kernel
theorem dd_Mo_proof_1 : decode bm_Mo_proof 1 = .ok (.iload_n 1, 1) := by decide +kernel
theorem dd_Mo_proof_2 : decode bm_Mo_proof 2 = .ok (.isub, 1) := by decide +kernel
theorem dd_Mo_proof_3 : decode bm_Mo_proof 3 = .ok (.istore 6, 2) := by decide +kernel
theorem dd_Mo_proof_5 : decode bm_Mo_proof 5 = .ok (.aload_n 0, 1) := by decide +kernel
theorem dd_Mo_proof_6 : decode bm_Mo_proof 6 = .ok (.iload_n 1, 1) := by decide +kernel
theorem dd_Mo_proof_7 : decode bm_Mo_proof 7 = .ok (.iload_n 2, 1) := by decide +kernel
theorem dd_Mo_proof_8 : decode bm_Mo_proof 8 = .ok (.invokevirtual 110, 3) := by decide +kernel
theorem dd_Mo_proof_11 : decode bm_Mo_proof 11 = .ok (.ifCond .ne 6, 3) := by decide +kernel
theorem dd_Mo_proof_14 : decode bm_Mo_proof 14 = .ok (.bipush (-3), 2) := by decide +kernel
theorem dd_Mo_proof_16 : decode bm_Mo_proof 16 = .ok (.ireturn, 1) := by decide +kernel
theorem dd_Mo_proof_17 : decode bm_Mo_proof 17 = .ok (.aload_n 0, 1) := by decide +kernel
theorem dd_Mo_proof_18 : decode bm_Mo_proof 18 = .ok (.iload 6, 2) := by decide +kernel
theorem dd_Mo_proof_20 : decode bm_Mo_proof 20 = .ok (.iload_n 2, 1) := by decide +kernel
theorem dd_Mo_proof_21 : decode bm_Mo_proof 21 = .ok (.invokevirtual 114, 3) := by decide +kernel
theorem dd_Mo_proof_24 : decode bm_Mo_proof 24 = .ok (.ifCond .ne 6, 3) := by decide +kernel
theorem dd_Mo_proof_27 : decode bm_Mo_proof 27 = .ok (.bipush (-4), 2) := by decide +kernel
theorem dd_Mo_proof_29 : decode bm_Mo_proof 29 = .ok (.ireturn, 1) := by decide +kernel
theorem dd_Mo_proof_30 : decode bm_Mo_proof 30 = .ok (.bipush 8, 2) := by decide +kernel
theorem dd_Mo_proof_32 : decode bm_Mo_proof 32 = .ok (.iload 6, 2) := by decide +kernel
theorem dd_Mo_proof_34 : decode bm_Mo_proof 34 = .ok (.imul, 1) := by decide +kernel
theorem dd_Mo_proof_35 : decode bm_Mo_proof 35 = .ok (.iload_n 2, 1) := by decide +kernel
theorem dd_Mo_proof_36 : decode bm_Mo_proof 36 = .ok (.bipush 8, 2) := by decide +kernel
theorem dd_Mo_proof_38 : decode bm_Mo_proof 38 = .ok (.irem, 1) := by decide +kernel
theorem dd_Mo_proof_39 : decode bm_Mo_proof 39 = .ok (.iadd, 1) := by decide +kernel
theorem dd_Mo_proof_40 : decode bm_Mo_proof 40 = .ok (.istore 7, 2) := by decide +kernel
theorem dd_Mo_proof_42 : decode bm_Mo_proof 42 = .ok (.sipush 128, 3) := by decide +kernel
theorem dd_Mo_proof_45 : decode bm_Mo_proof 45 = .ok (.iload 7, 2) := by decide +kernel
theorem dd_Mo_proof_47 : decode bm_Mo_proof 47 = .ok (.imul, 1) := by decide +kernel
theorem dd_Mo_proof_48 : decode bm_Mo_proof 48 = .ok (.istore 8, 2) := by decide +kernel
theorem dd_Mo_proof_50 : decode bm_Mo_proof 50 = .ok (.iload 8, 2) := by decide +kernel
theorem dd_Mo_proof_52 : decode bm_Mo_proof 52 = .ok (.sipush 128, 3) := by decide +kernel
theorem dd_Mo_proof_55 : decode bm_Mo_proof 55 = .ok (.iload 7, 2) := by decide +kernel
theorem dd_Mo_proof_57 : decode bm_Mo_proof 57 = .ok (.imul, 1) := by decide +kernel
theorem dd_Mo_proof_58 : decode bm_Mo_proof 58 = .ok (.aload_n 0, 1) := by decide +kernel
theorem dd_Mo_proof_59 : decode bm_Mo_proof 59 = .ok (.getfield 20, 3) := by decide +kernel
theorem dd_Mo_proof_62 : decode bm_Mo_proof 62 = .ok (.iload 7, 2) := by decide +kernel
theorem dd_Mo_proof_64 : decode bm_Mo_proof 64 = .ok (.iaload, 1) := by decide +kernel
theorem dd_Mo_proof_65 : decode bm_Mo_proof 65 = .ok (.iadd, 1) := by decide +kernel
theorem dd_Mo_proof_66 : decode bm_Mo_proof 66 = .ok (.if_icmp .ge 44, 3) := by decide +kernel
theorem dd_Mo_proof_69 : decode bm_Mo_proof 69 = .ok (.aload_n 0, 1) := by decide +kernel
theorem dd_Mo_proof_70 : decode bm_Mo_proof 70 = .ok (.getfield 23, 3) := by decide +kernel
theorem dd_Mo_proof_73 : decode bm_Mo_proof 73 = .ok (.iload 8, 2) := by decide +kernel
theorem dd_Mo_proof_75 : decode bm_Mo_proof 75 = .ok (.iaload, 1) := by decide +kernel
theorem dd_Mo_proof_76 : decode bm_Mo_proof 76 = .ok (.iload_n 3, 1) := by decide +kernel
theorem dd_Mo_proof_77 : decode bm_Mo_proof 77 = .ok (.if_icmp .ne 27, 3) := by decide +kernel
theorem dd_Mo_proof_80 : decode bm_Mo_proof 80 = .ok (.iload 4, 2) := by decide +kernel
theorem dd_Mo_proof_82 : decode bm_Mo_proof 82 = .ok (.ifCond .ne 19, 3) := by decide +kernel
theorem dd_Mo_proof_85 : decode bm_Mo_proof 85 = .ok (.aload_n 0, 1) := by decide +kernel
theorem dd_Mo_proof_86 : decode bm_Mo_proof 86 = .ok (.getfield 26, 3) := by decide +kernel
theorem dd_Mo_proof_89 : decode bm_Mo_proof 89 = .ok (.iload 8, 2) := by decide +kernel
theorem dd_Mo_proof_91 : decode bm_Mo_proof 91 = .ok (.iaload, 1) := by decide +kernel
theorem dd_Mo_proof_92 : decode bm_Mo_proof 92 = .ok (.iload 5, 2) := by decide +kernel
theorem dd_Mo_proof_94 : decode bm_Mo_proof 94 = .ok (.if_icmp .ne 7, 3) := by decide +kernel
theorem dd_Mo_proof_97 : decode bm_Mo_proof 97 = .ok (.iconst 0, 1) := by decide +kernel
theorem dd_Mo_proof_98 : decode bm_Mo_proof 98 = .ok (.goto 5, 3) := by decide +kernel
theorem dd_Mo_proof_101 : decode bm_Mo_proof 101 = .ok (.bipush (-5), 2) := by decide +kernel
theorem dd_Mo_proof_103 : decode bm_Mo_proof 103 = .ok (.ireturn, 1) := by decide +kernel
theorem dd_Mo_proof_104 : decode bm_Mo_proof 104 = .ok (.iinc 8 1, 3) := by decide +kernel
theorem dd_Mo_proof_107 : decode bm_Mo_proof 107 = .ok (.goto (-57), 3) := by decide +kernel
theorem dd_Mo_proof_110 : decode bm_Mo_proof 110 = .ok (.iload 4, 2) := by decide +kernel
theorem dd_Mo_proof_112 : decode bm_Mo_proof 112 = .ok (.ifCond .eq 7, 3) := by decide +kernel
theorem dd_Mo_proof_115 : decode bm_Mo_proof 115 = .ok (.iconst 0, 1) := by decide +kernel
theorem dd_Mo_proof_116 : decode bm_Mo_proof 116 = .ok (.goto 5, 3) := by decide +kernel
theorem dd_Mo_proof_119 : decode bm_Mo_proof 119 = .ok (.bipush (-5), 2) := by decide +kernel
theorem dd_Mo_proof_121 : decode bm_Mo_proof 121 = .ok (.ireturn, 1) := by decide +kernel
theorem dd_Mo_root_0 : decode bm_Mo_root 0 = .ok (.iload_n 1, 1) := by decide +kernel
theorem dd_Mo_root_1 : decode bm_Mo_root 1 = .ok (.iconst 0, 1) := by decide +kernel
theorem dd_Mo_root_2 : decode bm_Mo_root 2 = .ok (.iconst 1, 1) := by decide +kernel
theorem dd_Mo_root_3 : decode bm_Mo_root 3 = .ok (.invokestatic 91, 3) := by decide +kernel
theorem dd_Mo_root_6 : decode bm_Mo_root 6 = .ok (.ifCond .ne 12, 3) := by decide +kernel
theorem dd_Mo_root_9 : decode bm_Mo_root 9 = .ok (.aload_n 0, 1) := by decide +kernel
theorem dd_Mo_root_10 : decode bm_Mo_root 10 = .ok (.iload_n 1, 1) := by decide +kernel
theorem dd_Mo_root_11 : decode bm_Mo_root 11 = .ok (.iload_n 2, 1) := by decide +kernel
theorem dd_Mo_root_12 : decode bm_Mo_root 12 = .ok (.invokevirtual 114, 3) := by decide +kernel
theorem dd_Mo_root_15 : decode bm_Mo_root 15 = .ok (.ifCond .ne 5, 3) := by decide +kernel
theorem dd_Mo_root_18 : decode bm_Mo_root 18 = .ok (.iconst 0, 1) := by decide +kernel
theorem dd_Mo_root_19 : decode bm_Mo_root 19 = .ok (.ireturn, 1) := by decide +kernel
theorem dd_Mo_root_20 : decode bm_Mo_root 20 = .ok (.bipush 8, 2) := by decide +kernel
theorem dd_Mo_root_22 : decode bm_Mo_root 22 = .ok (.iload_n 1, 1) := by decide +kernel
theorem dd_Mo_root_23 : decode bm_Mo_root 23 = .ok (.imul, 1) := by decide +kernel
theorem dd_Mo_root_24 : decode bm_Mo_root 24 = .ok (.iload_n 2, 1) := by decide +kernel
theorem dd_Mo_root_25 : decode bm_Mo_root 25 = .ok (.bipush 8, 2) := by decide +kernel
theorem dd_Mo_root_27 : decode bm_Mo_root 27 = .ok (.irem, 1) := by decide +kernel
theorem dd_Mo_root_28 : decode bm_Mo_root 28 = .ok (.iadd, 1) := by decide +kernel
theorem dd_Mo_root_29 : decode bm_Mo_root 29 = .ok (.istore_n 3, 1) := by decide +kernel
theorem dd_Mo_root_30 : decode bm_Mo_root 30 = .ok (.iconst 0, 1) := by decide +kernel
theorem dd_Mo_root_31 : decode bm_Mo_root 31 = .ok (.istore 4, 2) := by decide +kernel
theorem dd_Mo_root_33 : decode bm_Mo_root 33 = .ok (.sipush 128, 3) := by decide +kernel
theorem dd_Mo_root_36 : decode bm_Mo_root 36 = .ok (.iload_n 3, 1) := by decide +kernel
theorem dd_Mo_root_37 : decode bm_Mo_root 37 = .ok (.imul, 1) := by decide +kernel
theorem dd_Mo_root_38 : decode bm_Mo_root 38 = .ok (.istore 5, 2) := by decide +kernel
theorem dd_Mo_root_40 : decode bm_Mo_root 40 = .ok (.iload 5, 2) := by decide +kernel
theorem dd_Mo_root_42 : decode bm_Mo_root 42 = .ok (.sipush 128, 3) := by decide +kernel
theorem dd_Mo_root_45 : decode bm_Mo_root 45 = .ok (.iload_n 3, 1) := by decide +kernel
theorem dd_Mo_root_46 : decode bm_Mo_root 46 = .ok (.imul, 1) := by decide +kernel
theorem dd_Mo_root_47 : decode bm_Mo_root 47 = .ok (.aload_n 0, 1) := by decide +kernel
theorem dd_Mo_root_48 : decode bm_Mo_root 48 = .ok (.getfield 20, 3) := by decide +kernel
theorem dd_Mo_root_51 : decode bm_Mo_root 51 = .ok (.iload_n 3, 1) := by decide +kernel
theorem dd_Mo_root_52 : decode bm_Mo_root 52 = .ok (.iaload, 1) := by decide +kernel
theorem dd_Mo_root_53 : decode bm_Mo_root 53 = .ok (.iadd, 1) := by decide +kernel
theorem dd_Mo_root_54 : decode bm_Mo_root 54 = .ok (.if_icmp .ge 86, 3) := by decide +kernel
theorem dd_Mo_root_57 : decode bm_Mo_root 57 = .ok (.aload_n 0, 1) := by decide +kernel
theorem dd_Mo_root_58 : decode bm_Mo_root 58 = .ok (.getfield 80, 3) := by decide +kernel
theorem dd_Mo_root_61 : decode bm_Mo_root 61 = .ok (.iload 4, 2) := by decide +kernel
theorem dd_Mo_root_63 : decode bm_Mo_root 63 = .ok (.iconst 1, 1) := by decide +kernel
theorem dd_Mo_root_64 : decode bm_Mo_root 64 = .ok (.aload_n 0, 1) := by decide +kernel
theorem dd_Mo_root_65 : decode bm_Mo_root 65 = .ok (.getfield 23, 3) := by decide +kernel
theorem dd_Mo_root_68 : decode bm_Mo_root 68 = .ok (.iload 5, 2) := by decide +kernel
theorem dd_Mo_root_70 : decode bm_Mo_root 70 = .ok (.iaload, 1) := by decide +kernel
theorem dd_Mo_root_71 : decode bm_Mo_root 71 = .ok (.invokestatic 107, 3) := by decide +kernel
theorem dd_Mo_root_74 : decode bm_Mo_root 74 = .ok (.aload_n 0, 1) := by decide +kernel
theorem dd_Mo_root_75 : decode bm_Mo_root 75 = .ok (.getfield 26, 3) := by decide +kernel
theorem dd_Mo_root_78 : decode bm_Mo_root 78 = .ok (.iload 5, 2) := by decide +kernel
theorem dd_Mo_root_80 : decode bm_Mo_root 80 = .ok (.iaload, 1) := by decide +kernel
theorem dd_Mo_root_81 : decode bm_Mo_root 81 = .ok (.invokestatic 107, 3) := by decide +kernel
theorem dd_Mo_root_84 : decode bm_Mo_root 84 = .ok (.iastore, 1) := by decide +kernel
theorem dd_Mo_root_85 : decode bm_Mo_root 85 = .ok (.aload_n 0, 1) := by decide +kernel
theorem dd_Mo_root_86 : decode bm_Mo_root 86 = .ok (.getfield 83, 3) := by decide +kernel
theorem dd_Mo_root_89 : decode bm_Mo_root 89 = .ok (.iload 4, 2) := by decide +kernel
theorem dd_Mo_root_91 : decode bm_Mo_root 91 = .ok (.iconst 1, 1) := by decide +kernel
theorem dd_Mo_root_92 : decode bm_Mo_root 92 = .ok (.iastore, 1) := by decide +kernel
theorem dd_Mo_root_93 : decode bm_Mo_root 93 = .ok (.iinc 4 1, 3) := by decide +kernel
theorem dd_Mo_root_96 : decode bm_Mo_root 96 = .ok (.iload 4, 2) := by decide +kernel
theorem dd_Mo_root_98 : decode bm_Mo_root 98 = .ok (.iconst 1, 1) := by decide +kernel
theorem dd_Mo_root_99 : decode bm_Mo_root 99 = .ok (.if_icmp .le 35, 3) := by decide +kernel
theorem dd_Mo_root_102 : decode bm_Mo_root 102 = .ok (.aload_n 0, 1) := by decide +kernel
theorem dd_Mo_root_103 : decode bm_Mo_root 103 = .ok (.getfield 83, 3) := by decide +kernel
theorem dd_Mo_root_106 : decode bm_Mo_root 106 = .ok (.iload 4, 2) := by decide +kernel
theorem dd_Mo_root_108 : decode bm_Mo_root 108 = .ok (.iconst 2, 1) := by decide +kernel
theorem dd_Mo_root_109 : decode bm_Mo_root 109 = .ok (.isub, 1) := by decide +kernel
theorem dd_Mo_root_110 : decode bm_Mo_root 110 = .ok (.iaload, 1) := by decide +kernel
theorem dd_Mo_root_111 : decode bm_Mo_root 111 = .ok (.aload_n 0, 1) := by decide +kernel
theorem dd_Mo_root_112 : decode bm_Mo_root 112 = .ok (.getfield 83, 3) := by decide +kernel
theorem dd_Mo_root_115 : decode bm_Mo_root 115 = .ok (.iload 4, 2) := by decide +kernel
theorem dd_Mo_root_117 : decode bm_Mo_root 117 = .ok (.iconst 1, 1) := by decide +kernel
theorem dd_Mo_root_118 : decode bm_Mo_root 118 = .ok (.isub, 1) := by decide +kernel
theorem dd_Mo_root_119 : decode bm_Mo_root 119 = .ok (.iaload, 1) := by decide +kernel
theorem dd_Mo_root_120 : decode bm_Mo_root 120 = .ok (.if_icmp .ne 14, 3) := by decide +kernel
theorem dd_Mo_root_123 : decode bm_Mo_root 123 = .ok (.aload_n 0, 1) := by decide +kernel
theorem dd_Mo_root_124 : decode bm_Mo_root 124 = .ok (.iload 4, 2) := by decide +kernel
theorem dd_Mo_root_126 : decode bm_Mo_root 126 = .ok (.invokevirtual 117, 3) := by decide +kernel
theorem dd_Mo_root_129 : decode bm_Mo_root 129 = .ok (.istore 4, 2) := by decide +kernel
theorem dd_Mo_root_131 : decode bm_Mo_root 131 = .ok (.goto (-35), 3) := by decide +kernel
theorem dd_Mo_root_134 : decode bm_Mo_root 134 = .ok (.iinc 5 1, 3) := by decide +kernel
theorem dd_Mo_root_137 : decode bm_Mo_root 137 = .ok (.goto (-97), 3) := by decide +kernel
theorem dd_Mo_root_140 : decode bm_Mo_root 140 = .ok (.iload 4, 2) := by decide +kernel
theorem dd_Mo_root_142 : decode bm_Mo_root 142 = .ok (.iconst 1, 1) := by decide +kernel
theorem dd_Mo_root_143 : decode bm_Mo_root 143 = .ok (.if_icmp .le 14, 3) := by decide +kernel
theorem dd_Mo_root_146 : decode bm_Mo_root 146 = .ok (.aload_n 0, 1) := by decide +kernel
theorem dd_Mo_root_147 : decode bm_Mo_root 147 = .ok (.iload 4, 2) := by decide +kernel
theorem dd_Mo_root_149 : decode bm_Mo_root 149 = .ok (.invokevirtual 117, 3) := by decide +kernel
theorem dd_Mo_root_152 : decode bm_Mo_root 152 = .ok (.istore 4, 2) := by decide +kernel
theorem dd_Mo_root_154 : decode bm_Mo_root 154 = .ok (.goto (-14), 3) := by decide +kernel
theorem dd_Mo_root_157 : decode bm_Mo_root 157 = .ok (.iload 4, 2) := by decide +kernel
theorem dd_Mo_root_159 : decode bm_Mo_root 159 = .ok (.ifCond .ne 7, 3) := by decide +kernel
theorem dd_Mo_root_162 : decode bm_Mo_root 162 = .ok (.iconst 0, 1) := by decide +kernel
theorem dd_Mo_root_163 : decode bm_Mo_root 163 = .ok (.goto 9, 3) := by decide +kernel
theorem dd_Mo_root_166 : decode bm_Mo_root 166 = .ok (.aload_n 0, 1) := by decide +kernel
theorem dd_Mo_root_167 : decode bm_Mo_root 167 = .ok (.getfield 80, 3) := by decide +kernel
theorem dd_Mo_root_170 : decode bm_Mo_root 170 = .ok (.iconst 0, 1) := by decide +kernel
theorem dd_Mo_root_171 : decode bm_Mo_root 171 = .ok (.iaload, 1) := by decide +kernel
theorem dd_Mo_root_172 : decode bm_Mo_root 172 = .ok (.ireturn, 1) := by decide +kernel
theorem dd_Mo_join_0 : decode bm_Mo_join 0 = .ok (.aload_n 0, 1) := by decide +kernel
theorem dd_Mo_join_1 : decode bm_Mo_join 1 = .ok (.getfield 80, 3) := by decide +kernel
theorem dd_Mo_join_4 : decode bm_Mo_join 4 = .ok (.iload_n 1, 1) := by decide +kernel
theorem dd_Mo_join_5 : decode bm_Mo_join 5 = .ok (.iconst 2, 1) := by decide +kernel
theorem dd_Mo_join_6 : decode bm_Mo_join 6 = .ok (.isub, 1) := by decide +kernel
theorem dd_Mo_join_7 : decode bm_Mo_join 7 = .ok (.iconst 2, 1) := by decide +kernel
theorem dd_Mo_join_8 : decode bm_Mo_join 8 = .ok (.aload_n 0, 1) := by decide +kernel
theorem dd_Mo_join_9 : decode bm_Mo_join 9 = .ok (.getfield 80, 3) := by decide +kernel
theorem dd_Mo_join_12 : decode bm_Mo_join 12 = .ok (.iload_n 1, 1) := by decide +kernel
theorem dd_Mo_join_13 : decode bm_Mo_join 13 = .ok (.iconst 2, 1) := by decide +kernel
theorem dd_Mo_join_14 : decode bm_Mo_join 14 = .ok (.isub, 1) := by decide +kernel
theorem dd_Mo_join_15 : decode bm_Mo_join 15 = .ok (.iaload, 1) := by decide +kernel
theorem dd_Mo_join_16 : decode bm_Mo_join 16 = .ok (.invokestatic 107, 3) := by decide +kernel
theorem dd_Mo_join_19 : decode bm_Mo_join 19 = .ok (.aload_n 0, 1) := by decide +kernel
theorem dd_Mo_join_20 : decode bm_Mo_join 20 = .ok (.getfield 80, 3) := by decide +kernel
theorem dd_Mo_join_23 : decode bm_Mo_join 23 = .ok (.iload_n 1, 1) := by decide +kernel
theorem dd_Mo_join_24 : decode bm_Mo_join 24 = .ok (.iconst 1, 1) := by decide +kernel
theorem dd_Mo_join_25 : decode bm_Mo_join 25 = .ok (.isub, 1) := by decide +kernel
theorem dd_Mo_join_26 : decode bm_Mo_join 26 = .ok (.iaload, 1) := by decide +kernel
theorem dd_Mo_join_27 : decode bm_Mo_join 27 = .ok (.invokestatic 107, 3) := by decide +kernel
theorem dd_Mo_join_30 : decode bm_Mo_join 30 = .ok (.iastore, 1) := by decide +kernel
theorem dd_Mo_join_31 : decode bm_Mo_join 31 = .ok (.aload_n 0, 1) := by decide +kernel
theorem dd_Mo_join_32 : decode bm_Mo_join 32 = .ok (.getfield 83, 3) := by decide +kernel
theorem dd_Mo_join_35 : decode bm_Mo_join 35 = .ok (.iload_n 1, 1) := by decide +kernel
theorem dd_Mo_join_36 : decode bm_Mo_join 36 = .ok (.iconst 2, 1) := by decide +kernel
theorem dd_Mo_join_37 : decode bm_Mo_join 37 = .ok (.isub, 1) := by decide +kernel
theorem dd_Mo_join_38 : decode bm_Mo_join 38 = .ok (.aload_n 0, 1) := by decide +kernel
theorem dd_Mo_join_39 : decode bm_Mo_join 39 = .ok (.getfield 83, 3) := by decide +kernel
theorem dd_Mo_join_42 : decode bm_Mo_join 42 = .ok (.iload_n 1, 1) := by decide +kernel
theorem dd_Mo_join_43 : decode bm_Mo_join 43 = .ok (.iconst 2, 1) := by decide +kernel
theorem dd_Mo_join_44 : decode bm_Mo_join 44 = .ok (.isub, 1) := by decide +kernel
theorem dd_Mo_join_45 : decode bm_Mo_join 45 = .ok (.iaload, 1) := by decide +kernel
theorem dd_Mo_join_46 : decode bm_Mo_join 46 = .ok (.aload_n 0, 1) := by decide +kernel
theorem dd_Mo_join_47 : decode bm_Mo_join 47 = .ok (.getfield 83, 3) := by decide +kernel
theorem dd_Mo_join_50 : decode bm_Mo_join 50 = .ok (.iload_n 1, 1) := by decide +kernel
theorem dd_Mo_join_51 : decode bm_Mo_join 51 = .ok (.iconst 1, 1) := by decide +kernel
theorem dd_Mo_join_52 : decode bm_Mo_join 52 = .ok (.isub, 1) := by decide +kernel
theorem dd_Mo_join_53 : decode bm_Mo_join 53 = .ok (.iaload, 1) := by decide +kernel
theorem dd_Mo_join_54 : decode bm_Mo_join 54 = .ok (.iadd, 1) := by decide +kernel
theorem dd_Mo_join_55 : decode bm_Mo_join 55 = .ok (.iastore, 1) := by decide +kernel
theorem dd_Mo_join_56 : decode bm_Mo_join 56 = .ok (.iload_n 1, 1) := by decide +kernel
theorem dd_Mo_join_57 : decode bm_Mo_join 57 = .ok (.iconst 1, 1) := by decide +kernel
theorem dd_Mo_join_58 : decode bm_Mo_join 58 = .ok (.isub, 1) := by decide +kernel
theorem dd_Mo_join_59 : decode bm_Mo_join 59 = .ok (.ireturn, 1) := by decide +kernel
theorem dd_Mo_isEnd_0 : decode bm_Mo_isEnd 0 = .ok (.iload_n 0, 1) := by decide +kernel
theorem dd_Mo_isEnd_1 : decode bm_Mo_isEnd 1 = .ok (.iconst 0, 1) := by decide +kernel
theorem dd_Mo_isEnd_2 : decode bm_Mo_isEnd 2 = .ok (.iconst 1, 1) := by decide +kernel
theorem dd_Mo_isEnd_3 : decode bm_Mo_isEnd 3 = .ok (.invokestatic 91, 3) := by decide +kernel
theorem dd_Mo_isEnd_6 : decode bm_Mo_isEnd 6 = .ok (.ifCond .ne 16, 3) := by decide +kernel
theorem dd_Mo_isEnd_9 : decode bm_Mo_isEnd 9 = .ok (.iload_n 1, 1) := by decide +kernel
theorem dd_Mo_isEnd_10 : decode bm_Mo_isEnd 10 = .ok (.iconst 0, 1) := by decide +kernel
theorem dd_Mo_isEnd_11 : decode bm_Mo_isEnd 11 = .ok (.iconst 2, 1) := by decide +kernel
theorem dd_Mo_isEnd_12 : decode bm_Mo_isEnd 12 = .ok (.invokestatic 91, 3) := by decide +kernel
theorem dd_Mo_isEnd_15 : decode bm_Mo_isEnd 15 = .ok (.ifCond .ne 7, 3) := by decide +kernel
theorem dd_Mo_isEnd_18 : decode bm_Mo_isEnd 18 = .ok (.iconst 1, 1) := by decide +kernel
theorem dd_Mo_isEnd_19 : decode bm_Mo_isEnd 19 = .ok (.goto 4, 3) := by decide +kernel
theorem dd_Mo_isEnd_22 : decode bm_Mo_isEnd 22 = .ok (.iconst 0, 1) := by decide +kernel
theorem dd_Mo_isEnd_23 : decode bm_Mo_isEnd 23 = .ok (.ireturn, 1) := by decide +kernel
theorem dd_Mo_flag_0 : decode bm_Mo_flag 0 = .ok (.iload_n 0, 1) := by decide +kernel
theorem dd_Mo_flag_1 : decode bm_Mo_flag 1 = .ok (.ifCond .eq 7, 3) := by decide +kernel
theorem dd_Mo_flag_4 : decode bm_Mo_flag 4 = .ok (.iconst 1, 1) := by decide +kernel
theorem dd_Mo_flag_5 : decode bm_Mo_flag 5 = .ok (.goto 4, 3) := by decide +kernel
theorem dd_Mo_flag_8 : decode bm_Mo_flag 8 = .ok (.iconst 0, 1) := by decide +kernel
theorem dd_Mo_flag_9 : decode bm_Mo_flag 9 = .ok (.ireturn, 1) := by decide +kernel
theorem dd_Mo_init_0 : decode bm_Mo_init 0 = .ok (.iload_n 1, 1) := by decide +kernel
theorem dd_Mo_init_1 : decode bm_Mo_init 1 = .ok (.iload_n 2, 1) := by decide +kernel
theorem dd_Mo_init_2 : decode bm_Mo_init 2 = .ok (.invokestatic 121, 3) := by decide +kernel
theorem dd_Mo_init_5 : decode bm_Mo_init 5 = .ok (.ifCond .ne 5, 3) := by decide +kernel
theorem dd_Mo_init_8 : decode bm_Mo_init 8 = .ok (.iconst (-1), 1) := by decide +kernel
theorem dd_Mo_init_9 : decode bm_Mo_init 9 = .ok (.ireturn, 1) := by decide +kernel
theorem dd_Mo_init_10 : decode bm_Mo_init 10 = .ok (.iconst 3, 1) := by decide +kernel
theorem dd_Mo_init_11 : decode bm_Mo_init 11 = .ok (.iload_n 1, 1) := by decide +kernel
theorem dd_Mo_init_12 : decode bm_Mo_init 12 = .ok (.imul, 1) := by decide +kernel
theorem dd_Mo_init_13 : decode bm_Mo_init 13 = .ok (.iload_n 2, 1) := by decide +kernel
theorem dd_Mo_init_14 : decode bm_Mo_init 14 = .ok (.iadd, 1) := by decide +kernel
theorem dd_Mo_init_15 : decode bm_Mo_init 15 = .ok (.istore 4, 2) := by decide +kernel
theorem dd_Mo_init_17 : decode bm_Mo_init 17 = .ok (.aload_n 0, 1) := by decide +kernel
theorem dd_Mo_init_18 : decode bm_Mo_init 18 = .ok (.getfield 29, 3) := by decide +kernel
theorem dd_Mo_init_21 : decode bm_Mo_init 21 = .ok (.iload 4, 2) := by decide +kernel
theorem dd_Mo_init_23 : decode bm_Mo_init 23 = .ok (.iaload, 1) := by decide +kernel
theorem dd_Mo_init_24 : decode bm_Mo_init 24 = .ok (.ifCond .eq 6, 3) := by decide +kernel
theorem dd_Mo_init_27 : decode bm_Mo_init 27 = .ok (.bipush (-2), 2) := by decide +kernel
theorem dd_Mo_init_29 : decode bm_Mo_init 29 = .ok (.ireturn, 1) := by decide +kernel
theorem dd_Mo_init_30 : decode bm_Mo_init 30 = .ok (.aload_n 0, 1) := by decide +kernel
theorem dd_Mo_init_31 : decode bm_Mo_init 31 = .ok (.getfield 29, 3) := by decide +kernel
theorem dd_Mo_init_34 : decode bm_Mo_init 34 = .ok (.iload 4, 2) := by decide +kernel
theorem dd_Mo_init_36 : decode bm_Mo_init 36 = .ok (.iconst 1, 1) := by decide +kernel
theorem dd_Mo_init_37 : decode bm_Mo_init 37 = .ok (.iastore, 1) := by decide +kernel
theorem dd_Mo_init_38 : decode bm_Mo_init 38 = .ok (.aload_n 0, 1) := by decide +kernel
theorem dd_Mo_init_39 : decode bm_Mo_init 39 = .ok (.getfield 32, 3) := by decide +kernel
theorem dd_Mo_init_42 : decode bm_Mo_init 42 = .ok (.iload 4, 2) := by decide +kernel
theorem dd_Mo_init_44 : decode bm_Mo_init 44 = .ok (.iload_n 3, 1) := by decide +kernel
theorem dd_Mo_init_45 : decode bm_Mo_init 45 = .ok (.bastore, 1) := by decide +kernel
theorem dd_Mo_init_46 : decode bm_Mo_init 46 = .ok (.iconst 0, 1) := by decide +kernel
theorem dd_Mo_init_47 : decode bm_Mo_init 47 = .ok (.ireturn, 1) := by decide +kernel
end
section
theorem dd_Mo_attempt_0 : decode bm_Mo_attempt 0 = .ok (.iload_n 1, 1) := by decide +kernel
theorem dd_Mo_attempt_1 : decode bm_Mo_attempt 1 = .ok (.iload_n 2, 1) := by decide +kernel
theorem dd_Mo_attempt_2 : decode bm_Mo_attempt 2 = .ok (.invokestatic 121, 3) := by decide +kernel
theorem dd_Mo_attempt_5 : decode bm_Mo_attempt 5 = .ok (.ifCond .ne 5, 3) := by decide +kernel
theorem dd_Mo_attempt_8 : decode bm_Mo_attempt 8 = .ok (.iconst (-1), 1) := by decide +kernel
theorem dd_Mo_attempt_9 : decode bm_Mo_attempt 9 = .ok (.ireturn, 1) := by decide +kernel
theorem dd_Mo_attempt_10 : decode bm_Mo_attempt 10 = .ok (.iconst 3, 1) := by decide +kernel
theorem dd_Mo_attempt_11 : decode bm_Mo_attempt 11 = .ok (.iload_n 1, 1) := by decide +kernel
theorem dd_Mo_attempt_12 : decode bm_Mo_attempt 12 = .ok (.imul, 1) := by decide +kernel
theorem dd_Mo_attempt_13 : decode bm_Mo_attempt 13 = .ok (.iload_n 2, 1) := by decide +kernel
theorem dd_Mo_attempt_14 : decode bm_Mo_attempt 14 = .ok (.iadd, 1) := by decide +kernel
theorem dd_Mo_attempt_15 : decode bm_Mo_attempt 15 = .ok (.istore 5, 2) := by decide +kernel
theorem dd_Mo_attempt_17 : decode bm_Mo_attempt 17 = .ok (.aload_n 0, 1) := by decide +kernel
theorem dd_Mo_attempt_18 : decode bm_Mo_attempt 18 = .ok (.getfield 29, 3) := by decide +kernel
theorem dd_Mo_attempt_21 : decode bm_Mo_attempt 21 = .ok (.iload 5, 2) := by decide +kernel
theorem dd_Mo_attempt_23 : decode bm_Mo_attempt 23 = .ok (.iaload, 1) := by decide +kernel
theorem dd_Mo_attempt_24 : decode bm_Mo_attempt 24 = .ok (.iconst 1, 1) := by decide +kernel
theorem dd_Mo_attempt_25 : decode bm_Mo_attempt 25 = .ok (.if_icmp .gt 25, 3) := by decide +kernel
theorem dd_Mo_attempt_28 : decode bm_Mo_attempt 28 = .ok (.aload_n 0, 1) := by decide +kernel
theorem dd_Mo_attempt_29 : decode bm_Mo_attempt 29 = .ok (.getfield 29, 3) := by decide +kernel
theorem dd_Mo_attempt_32 : decode bm_Mo_attempt 32 = .ok (.iload 5, 2) := by decide +kernel
theorem dd_Mo_attempt_34 : decode bm_Mo_attempt 34 = .ok (.iaload, 1) := by decide +kernel
theorem dd_Mo_attempt_35 : decode bm_Mo_attempt 35 = .ok (.iconst 1, 1) := by decide +kernel
theorem dd_Mo_attempt_36 : decode bm_Mo_attempt 36 = .ok (.if_icmp .ne 17, 3) := by decide +kernel
theorem dd_Mo_attempt_39 : decode bm_Mo_attempt 39 = .ok (.aload_n 0, 1) := by decide +kernel
theorem dd_Mo_attempt_40 : decode bm_Mo_attempt 40 = .ok (.getfield 32, 3) := by decide +kernel
theorem dd_Mo_attempt_43 : decode bm_Mo_attempt 43 = .ok (.iload 5, 2) := by decide +kernel
theorem dd_Mo_attempt_45 : decode bm_Mo_attempt 45 = .ok (.baload, 1) := by decide +kernel
theorem dd_Mo_attempt_46 : decode bm_Mo_attempt 46 = .ok (.iload_n 3, 1) := by decide +kernel
theorem dd_Mo_attempt_47 : decode bm_Mo_attempt 47 = .ok (.if_icmp .eq 6, 3) := by decide +kernel
theorem dd_Mo_attempt_50 : decode bm_Mo_attempt 50 = .ok (.bipush (-2), 2) := by decide +kernel
theorem dd_Mo_attempt_52 : decode bm_Mo_attempt 52 = .ok (.ireturn, 1) := by decide +kernel
theorem dd_Mo_attempt_53 : decode bm_Mo_attempt 53 = .ok (.aload_n 0, 1) := by decide +kernel
theorem dd_Mo_attempt_54 : decode bm_Mo_attempt 54 = .ok (.iload_n 1, 1) := by decide +kernel
theorem dd_Mo_attempt_55 : decode bm_Mo_attempt 55 = .ok (.iload 4, 2) := by decide +kernel
theorem dd_Mo_attempt_57 : decode bm_Mo_attempt 57 = .ok (.sipush 4096, 3) := by decide +kernel
theorem dd_Mo_attempt_60 : decode bm_Mo_attempt 60 = .ok (.iload_n 2, 1) := by decide +kernel
theorem dd_Mo_attempt_61 : decode bm_Mo_attempt 61 = .ok (.iadd, 1) := by decide +kernel
theorem dd_Mo_attempt_62 : decode bm_Mo_attempt 62 = .ok (.iconst 0, 1) := by decide +kernel
theorem dd_Mo_attempt_63 : decode bm_Mo_attempt 63 = .ok (.iconst 2, 1) := by decide +kernel
theorem dd_Mo_attempt_64 : decode bm_Mo_attempt 64 = .ok (.iload_n 3, 1) := by decide +kernel
theorem dd_Mo_attempt_65 : decode bm_Mo_attempt 65 = .ok (.invokestatic 124, 3) := by decide +kernel
theorem dd_Mo_attempt_68 : decode bm_Mo_attempt 68 = .ok (.iadd, 1) := by decide +kernel
theorem dd_Mo_attempt_69 : decode bm_Mo_attempt 69 = .ok (.invokevirtual 128, 3) := by decide +kernel
theorem dd_Mo_attempt_72 : decode bm_Mo_attempt 72 = .ok (.istore 6, 2) := by decide +kernel
theorem dd_Mo_attempt_74 : decode bm_Mo_attempt 74 = .ok (.iload 6, 2) := by decide +kernel
theorem dd_Mo_attempt_76 : decode bm_Mo_attempt 76 = .ok (.ifCond .eq 6, 3) := by decide +kernel
theorem dd_Mo_attempt_79 : decode bm_Mo_attempt 79 = .ok (.iload 6, 2) := by decide +kernel
theorem dd_Mo_attempt_81 : decode bm_Mo_attempt 81 = .ok (.ireturn, 1) := by decide +kernel
theorem dd_Mo_attempt_82 : decode bm_Mo_attempt 82 = .ok (.aload_n 0, 1) := by decide +kernel
theorem dd_Mo_attempt_83 : decode bm_Mo_attempt 83 = .ok (.getfield 29, 3) := by decide +kernel
theorem dd_Mo_attempt_86 : decode bm_Mo_attempt 86 = .ok (.iload 5, 2) := by decide +kernel
theorem dd_Mo_attempt_88 : decode bm_Mo_attempt 88 = .ok (.iconst 2, 1) := by decide +kernel
theorem dd_Mo_attempt_89 : decode bm_Mo_attempt 89 = .ok (.iastore, 1) := by decide +kernel
theorem dd_Mo_attempt_90 : decode bm_Mo_attempt 90 = .ok (.aload_n 0, 1) := by decide +kernel
theorem dd_Mo_attempt_91 : decode bm_Mo_attempt 91 = .ok (.getfield 32, 3) := by decide +kernel
theorem dd_Mo_attempt_94 : decode bm_Mo_attempt 94 = .ok (.iload 5, 2) := by decide +kernel
theorem dd_Mo_attempt_96 : decode bm_Mo_attempt 96 = .ok (.iload_n 3, 1) := by decide +kernel
theorem dd_Mo_attempt_97 : decode bm_Mo_attempt 97 = .ok (.bastore, 1) := by decide +kernel
theorem dd_Mo_attempt_98 : decode bm_Mo_attempt 98 = .ok (.iconst 0, 1) := by decide +kernel
theorem dd_Mo_attempt_99 : decode bm_Mo_attempt 99 = .ok (.ireturn, 1) := by decide +kernel
theorem dd_Mo_open_0 : decode bm_Mo_open 0 = .ok (.iload_n 1, 1) := by decide +kernel
theorem dd_Mo_open_1 : decode bm_Mo_open 1 = .ok (.iload_n 2, 1) := by decide +kernel
theorem dd_Mo_open_2 : decode bm_Mo_open 2 = .ok (.invokestatic 121, 3) := by decide +kernel
theorem dd_Mo_open_5 : decode bm_Mo_open 5 = .ok (.ifCond .eq 12, 3) := by decide +kernel
theorem dd_Mo_open_8 : decode bm_Mo_open 8 = .ok (.iload_n 3, 1) := by decide +kernel
theorem dd_Mo_open_9 : decode bm_Mo_open 9 = .ok (.iconst 0, 1) := by decide +kernel
theorem dd_Mo_open_10 : decode bm_Mo_open 10 = .ok (.iconst 2, 1) := by decide +kernel
theorem dd_Mo_open_11 : decode bm_Mo_open 11 = .ok (.invokestatic 91, 3) := by decide +kernel
theorem dd_Mo_open_14 : decode bm_Mo_open 14 = .ok (.ifCond .eq 5, 3) := by decide +kernel
theorem dd_Mo_open_17 : decode bm_Mo_open 17 = .ok (.iconst (-1), 1) := by decide +kernel
theorem dd_Mo_open_18 : decode bm_Mo_open 18 = .ok (.ireturn, 1) := by decide +kernel
theorem dd_Mo_open_19 : decode bm_Mo_open 19 = .ok (.iconst 3, 1) := by decide +kernel
theorem dd_Mo_open_20 : decode bm_Mo_open 20 = .ok (.iload_n 1, 1) := by decide +kernel
theorem dd_Mo_open_21 : decode bm_Mo_open 21 = .ok (.imul, 1) := by decide +kernel
theorem dd_Mo_open_22 : decode bm_Mo_open 22 = .ok (.iload_n 2, 1) := by decide +kernel
theorem dd_Mo_open_23 : decode bm_Mo_open 23 = .ok (.iadd, 1) := by decide +kernel
theorem dd_Mo_open_24 : decode bm_Mo_open 24 = .ok (.istore 5, 2) := by decide +kernel
theorem dd_Mo_open_26 : decode bm_Mo_open 26 = .ok (.aload_n 0, 1) := by decide +kernel
theorem dd_Mo_open_27 : decode bm_Mo_open 27 = .ok (.getfield 29, 3) := by decide +kernel
theorem dd_Mo_open_30 : decode bm_Mo_open 30 = .ok (.iload 5, 2) := by decide +kernel
theorem dd_Mo_open_32 : decode bm_Mo_open 32 = .ok (.iaload, 1) := by decide +kernel
theorem dd_Mo_open_33 : decode bm_Mo_open 33 = .ok (.iload_n 3, 1) := by decide +kernel
theorem dd_Mo_open_34 : decode bm_Mo_open 34 = .ok (.iconst 1, 1) := by decide +kernel
theorem dd_Mo_open_35 : decode bm_Mo_open 35 = .ok (.iadd, 1) := by decide +kernel
theorem dd_Mo_open_36 : decode bm_Mo_open 36 = .ok (.if_icmp .eq 6, 3) := by decide +kernel
theorem dd_Mo_open_39 : decode bm_Mo_open 39 = .ok (.bipush (-2), 2) := by decide +kernel
theorem dd_Mo_open_41 : decode bm_Mo_open 41 = .ok (.ireturn, 1) := by decide +kernel
theorem dd_Mo_open_42 : decode bm_Mo_open 42 = .ok (.aload_n 0, 1) := by decide +kernel
theorem dd_Mo_open_43 : decode bm_Mo_open 43 = .ok (.iload_n 1, 1) := by decide +kernel
theorem dd_Mo_open_44 : decode bm_Mo_open 44 = .ok (.iload 4, 2) := by decide +kernel
theorem dd_Mo_open_46 : decode bm_Mo_open 46 = .ok (.sipush 4096, 3) := by decide +kernel
theorem dd_Mo_open_49 : decode bm_Mo_open 49 = .ok (.iload_n 2, 1) := by decide +kernel
theorem dd_Mo_open_50 : decode bm_Mo_open 50 = .ok (.iadd, 1) := by decide +kernel
theorem dd_Mo_open_51 : decode bm_Mo_open 51 = .ok (.iconst 0, 1) := by decide +kernel
theorem dd_Mo_open_52 : decode bm_Mo_open 52 = .ok (.iconst 2, 1) := by decide +kernel
theorem dd_Mo_open_53 : decode bm_Mo_open 53 = .ok (.iload_n 3, 1) := by decide +kernel
theorem dd_Mo_open_54 : decode bm_Mo_open 54 = .ok (.iconst 2, 1) := by decide +kernel
theorem dd_Mo_open_55 : decode bm_Mo_open 55 = .ok (.iadd, 1) := by decide +kernel
theorem dd_Mo_open_56 : decode bm_Mo_open 56 = .ok (.imul, 1) := by decide +kernel
theorem dd_Mo_open_57 : decode bm_Mo_open 57 = .ok (.aload_n 0, 1) := by decide +kernel
theorem dd_Mo_open_58 : decode bm_Mo_open 58 = .ok (.getfield 32, 3) := by decide +kernel
theorem dd_Mo_open_61 : decode bm_Mo_open 61 = .ok (.iload 5, 2) := by decide +kernel
theorem dd_Mo_open_63 : decode bm_Mo_open 63 = .ok (.baload, 1) := by decide +kernel
theorem dd_Mo_open_64 : decode bm_Mo_open 64 = .ok (.invokestatic 124, 3) := by decide +kernel
theorem dd_Mo_open_67 : decode bm_Mo_open 67 = .ok (.iadd, 1) := by decide +kernel
theorem dd_Mo_open_68 : decode bm_Mo_open 68 = .ok (.invokevirtual 128, 3) := by decide +kernel
theorem dd_Mo_open_71 : decode bm_Mo_open 71 = .ok (.istore 6, 2) := by decide +kernel
theorem dd_Mo_open_73 : decode bm_Mo_open 73 = .ok (.iload 6, 2) := by decide +kernel
theorem dd_Mo_open_75 : decode bm_Mo_open 75 = .ok (.ifCond .eq 6, 3) := by decide +kernel
theorem dd_Mo_open_78 : decode bm_Mo_open 78 = .ok (.iload 6, 2) := by decide +kernel
theorem dd_Mo_open_80 : decode bm_Mo_open 80 = .ok (.ireturn, 1) := by decide +kernel
theorem dd_Mo_open_81 : decode bm_Mo_open 81 = .ok (.aload_n 0, 1) := by decide +kernel
theorem dd_Mo_open_82 : decode bm_Mo_open 82 = .ok (.getfield 29, 3) := by decide +kernel
theorem dd_Mo_open_85 : decode bm_Mo_open 85 = .ok (.iload 5, 2) := by decide +kernel
theorem dd_Mo_open_87 : decode bm_Mo_open 87 = .ok (.iload_n 3, 1) := by decide +kernel
theorem dd_Mo_open_88 : decode bm_Mo_open 88 = .ok (.iconst 2, 1) := by decide +kernel
theorem dd_Mo_open_89 : decode bm_Mo_open 89 = .ok (.if_icmp .ne 7, 3) := by decide +kernel
theorem dd_Mo_open_92 : decode bm_Mo_open 92 = .ok (.iconst 4, 1) := by decide +kernel
theorem dd_Mo_open_93 : decode bm_Mo_open 93 = .ok (.goto 4, 3) := by decide +kernel
theorem dd_Mo_open_96 : decode bm_Mo_open 96 = .ok (.iconst 3, 1) := by decide +kernel
theorem dd_Mo_open_97 : decode bm_Mo_open 97 = .ok (.iastore, 1) := by decide +kernel
theorem dd_Mo_open_98 : decode bm_Mo_open 98 = .ok (.iconst 0, 1) := by decide +kernel
theorem dd_Mo_open_99 : decode bm_Mo_open 99 = .ok (.ireturn, 1) := by decide +kernel
theorem dd_Mo_close_0 : decode bm_Mo_close 0 = .ok (.iload_n 1, 1) := by decide +kernel
theorem dd_Mo_close_1 : decode bm_Mo_close 1 = .ok (.iload_n 2, 1) := by decide +kernel
theorem dd_Mo_close_2 : decode bm_Mo_close 2 = .ok (.invokestatic 121, 3) := by decide +kernel
theorem dd_Mo_close_5 : decode bm_Mo_close 5 = .ok (.ifCond .ne 5, 3) := by decide +kernel
theorem dd_Mo_close_8 : decode bm_Mo_close 8 = .ok (.iconst (-1), 1) := by decide +kernel
theorem dd_Mo_close_9 : decode bm_Mo_close 9 = .ok (.ireturn, 1) := by decide +kernel
theorem dd_Mo_close_10 : decode bm_Mo_close 10 = .ok (.aload_n 0, 1) := by decide +kernel
theorem dd_Mo_close_11 : decode bm_Mo_close 11 = .ok (.getfield 29, 3) := by decide +kernel
theorem dd_Mo_close_14 : decode bm_Mo_close 14 = .ok (.iconst 3, 1) := by decide +kernel
theorem dd_Mo_close_15 : decode bm_Mo_close 15 = .ok (.iload_n 1, 1) := by decide +kernel
theorem dd_Mo_close_16 : decode bm_Mo_close 16 = .ok (.imul, 1) := by decide +kernel
theorem dd_Mo_close_17 : decode bm_Mo_close 17 = .ok (.iload_n 2, 1) := by decide +kernel
theorem dd_Mo_close_18 : decode bm_Mo_close 18 = .ok (.iadd, 1) := by decide +kernel
theorem dd_Mo_close_19 : decode bm_Mo_close 19 = .ok (.iaload, 1) := by decide +kernel
theorem dd_Mo_close_20 : decode bm_Mo_close 20 = .ok (.iconst 3, 1) := by decide +kernel
theorem dd_Mo_close_21 : decode bm_Mo_close 21 = .ok (.if_icmp .eq 6, 3) := by decide +kernel
theorem dd_Mo_close_24 : decode bm_Mo_close 24 = .ok (.bipush (-2), 2) := by decide +kernel
theorem dd_Mo_close_26 : decode bm_Mo_close 26 = .ok (.ireturn, 1) := by decide +kernel
theorem dd_Mo_close_27 : decode bm_Mo_close 27 = .ok (.aload_n 0, 1) := by decide +kernel
theorem dd_Mo_close_28 : decode bm_Mo_close 28 = .ok (.getfield 29, 3) := by decide +kernel
theorem dd_Mo_close_31 : decode bm_Mo_close 31 = .ok (.iconst 3, 1) := by decide +kernel
theorem dd_Mo_close_32 : decode bm_Mo_close 32 = .ok (.iload_n 1, 1) := by decide +kernel
theorem dd_Mo_close_33 : decode bm_Mo_close 33 = .ok (.imul, 1) := by decide +kernel
theorem dd_Mo_close_34 : decode bm_Mo_close 34 = .ok (.iload_n 2, 1) := by decide +kernel
theorem dd_Mo_close_35 : decode bm_Mo_close 35 = .ok (.iadd, 1) := by decide +kernel
theorem dd_Mo_close_36 : decode bm_Mo_close 36 = .ok (.iconst 4, 1) := by decide +kernel
theorem dd_Mo_close_37 : decode bm_Mo_close 37 = .ok (.iastore, 1) := by decide +kernel
theorem dd_Mo_close_38 : decode bm_Mo_close 38 = .ok (.iconst 0, 1) := by decide +kernel
theorem dd_Mo_close_39 : decode bm_Mo_close 39 = .ok (.ireturn, 1) := by decide +kernel
theorem dd_Mo_send_0 : decode bm_Mo_send 0 = .ok (.iload_n 1, 1) := by decide +kernel
theorem dd_Mo_send_1 : decode bm_Mo_send 1 = .ok (.iload_n 2, 1) := by decide +kernel
theorem dd_Mo_send_2 : decode bm_Mo_send 2 = .ok (.invokestatic 121, 3) := by decide +kernel
theorem dd_Mo_send_5 : decode bm_Mo_send 5 = .ok (.ifCond .eq 40, 3) := by decide +kernel
theorem dd_Mo_send_8 : decode bm_Mo_send 8 = .ok (.iload_n 3, 1) := by decide +kernel
theorem dd_Mo_send_9 : decode bm_Mo_send 9 = .ok (.iconst 0, 1) := by decide +kernel
theorem dd_Mo_send_10 : decode bm_Mo_send 10 = .ok (.bipush 15, 2) := by decide +kernel
theorem dd_Mo_send_12 : decode bm_Mo_send 12 = .ok (.invokestatic 91, 3) := by decide +kernel
theorem dd_Mo_send_15 : decode bm_Mo_send 15 = .ok (.ifCond .ne 30, 3) := by decide +kernel
theorem dd_Mo_send_18 : decode bm_Mo_send 18 = .ok (.iload 4, 2) := by decide +kernel
theorem dd_Mo_send_20 : decode bm_Mo_send 20 = .ok (.iconst 0, 1) := by decide +kernel
theorem dd_Mo_send_21 : decode bm_Mo_send 21 = .ok (.aload_n 0, 1) := by decide +kernel
theorem dd_Mo_send_22 : decode bm_Mo_send 22 = .ok (.getfield 71, 3) := by decide +kernel
theorem dd_Mo_send_25 : decode bm_Mo_send 25 = .ok (.iload_n 1, 1) := by decide +kernel
theorem dd_Mo_send_26 : decode bm_Mo_send 26 = .ok (.iaload, 1) := by decide +kernel
theorem dd_Mo_send_27 : decode bm_Mo_send 27 = .ok (.invokestatic 91, 3) := by decide +kernel
theorem dd_Mo_send_30 : decode bm_Mo_send 30 = .ok (.ifCond .ne 15, 3) := by decide +kernel
theorem dd_Mo_send_33 : decode bm_Mo_send 33 = .ok (.iload 5, 2) := by decide +kernel
theorem dd_Mo_send_35 : decode bm_Mo_send 35 = .ok (.iconst 1, 1) := by decide +kernel
theorem dd_Mo_send_36 : decode bm_Mo_send 36 = .ok (.sipush 1000, 3) := by decide +kernel
theorem dd_Mo_send_39 : decode bm_Mo_send 39 = .ok (.invokestatic 91, 3) := by decide +kernel
theorem dd_Mo_send_42 : decode bm_Mo_send 42 = .ok (.ifCond .eq 5, 3) := by decide +kernel
theorem dd_Mo_send_45 : decode bm_Mo_send 45 = .ok (.iconst (-1), 1) := by decide +kernel
theorem dd_Mo_send_46 : decode bm_Mo_send 46 = .ok (.ireturn, 1) := by decide +kernel
theorem dd_Mo_send_47 : decode bm_Mo_send 47 = .ok (.iconst 3, 1) := by decide +kernel
theorem dd_Mo_send_48 : decode bm_Mo_send 48 = .ok (.iload_n 1, 1) := by decide +kernel
theorem dd_Mo_send_49 : decode bm_Mo_send 49 = .ok (.imul, 1) := by decide +kernel
theorem dd_Mo_send_50 : decode bm_Mo_send 50 = .ok (.iload_n 2, 1) := by decide +kernel
theorem dd_Mo_send_51 : decode bm_Mo_send 51 = .ok (.iadd, 1) := by decide +kernel
theorem dd_Mo_send_52 : decode bm_Mo_send 52 = .ok (.istore 6, 2) := by decide +kernel
theorem dd_Mo_send_54 : decode bm_Mo_send 54 = .ok (.aload_n 0, 1) := by decide +kernel
theorem dd_Mo_send_55 : decode bm_Mo_send 55 = .ok (.getfield 29, 3) := by decide +kernel
theorem dd_Mo_send_58 : decode bm_Mo_send 58 = .ok (.iload 6, 2) := by decide +kernel
theorem dd_Mo_send_60 : decode bm_Mo_send 60 = .ok (.iaload, 1) := by decide +kernel
theorem dd_Mo_send_61 : decode bm_Mo_send 61 = .ok (.iconst 3, 1) := by decide +kernel
theorem dd_Mo_send_62 : decode bm_Mo_send 62 = .ok (.if_icmp .eq 6, 3) := by decide +kernel
theorem dd_Mo_send_65 : decode bm_Mo_send 65 = .ok (.bipush (-2), 2) := by decide +kernel
theorem dd_Mo_send_67 : decode bm_Mo_send 67 = .ok (.ireturn, 1) := by decide +kernel
theorem dd_Mo_send_68 : decode bm_Mo_send 68 = .ok (.bipush 24, 2) := by decide +kernel
theorem dd_Mo_send_70 : decode bm_Mo_send 70 = .ok (.iload_n 1, 1) := by decide +kernel
theorem dd_Mo_send_71 : decode bm_Mo_send 71 = .ok (.imul, 1) := by decide +kernel
theorem dd_Mo_send_72 : decode bm_Mo_send 72 = .ok (.bipush 6, 2) := by decide +kernel
theorem dd_Mo_send_74 : decode bm_Mo_send 74 = .ok (.iload_n 3, 1) := by decide +kernel
theorem dd_Mo_send_75 : decode bm_Mo_send 75 = .ok (.iconst 4, 1) := by decide +kernel
theorem dd_Mo_send_76 : decode bm_Mo_send 76 = .ok (.idiv, 1) := by decide +kernel
theorem dd_Mo_send_77 : decode bm_Mo_send 77 = .ok (.imul, 1) := by decide +kernel
theorem dd_Mo_send_78 : decode bm_Mo_send 78 = .ok (.iadd, 1) := by decide +kernel
theorem dd_Mo_send_79 : decode bm_Mo_send 79 = .ok (.iload 4, 2) := by decide +kernel
theorem dd_Mo_send_81 : decode bm_Mo_send 81 = .ok (.iadd, 1) := by decide +kernel
theorem dd_Mo_send_82 : decode bm_Mo_send 82 = .ok (.istore 7, 2) := by decide +kernel
theorem dd_Mo_send_84 : decode bm_Mo_send 84 = .ok (.aload_n 0, 1) := by decide +kernel
theorem dd_Mo_send_85 : decode bm_Mo_send 85 = .ok (.getfield 65, 3) := by decide +kernel
theorem dd_Mo_send_88 : decode bm_Mo_send 88 = .ok (.iload 7, 2) := by decide +kernel
theorem dd_Mo_send_90 : decode bm_Mo_send 90 = .ok (.iaload, 1) := by decide +kernel
theorem dd_Mo_send_91 : decode bm_Mo_send 91 = .ok (.iload 5, 2) := by decide +kernel
theorem dd_Mo_send_93 : decode bm_Mo_send 93 = .ok (.if_icmp .lt 15, 3) := by decide +kernel
theorem dd_Mo_send_96 : decode bm_Mo_send 96 = .ok (.aload_n 0, 1) := by decide +kernel
theorem dd_Mo_send_97 : decode bm_Mo_send 97 = .ok (.getfield 35, 3) := by decide +kernel
theorem dd_Mo_send_100 : decode bm_Mo_send 100 = .ok (.iload 6, 2) := by decide +kernel
theorem dd_Mo_send_102 : decode bm_Mo_send 102 = .ok (.iaload, 1) := by decide +kernel
theorem dd_Mo_send_103 : decode bm_Mo_send 103 = .ok (.bipush 12, 2) := by decide +kernel
theorem dd_Mo_send_105 : decode bm_Mo_send 105 = .ok (.if_icmp .ne 6, 3) := by decide +kernel
theorem dd_Mo_send_108 : decode bm_Mo_send 108 = .ok (.bipush (-7), 2) := by decide +kernel
theorem dd_Mo_send_110 : decode bm_Mo_send 110 = .ok (.ireturn, 1) := by decide +kernel
theorem dd_Mo_send_111 : decode bm_Mo_send 111 = .ok (.iload 4, 2) := by decide +kernel
theorem dd_Mo_send_113 : decode bm_Mo_send 113 = .ok (.ifCond .le 23, 3) := by decide +kernel
theorem dd_Mo_send_116 : decode bm_Mo_send 116 = .ok (.aload_n 0, 1) := by decide +kernel
theorem dd_Mo_send_117 : decode bm_Mo_send 117 = .ok (.getfield 77, 3) := by decide +kernel
theorem dd_Mo_send_120 : decode bm_Mo_send 120 = .ok (.bipush 6, 2) := by decide +kernel
theorem dd_Mo_send_122 : decode bm_Mo_send 122 = .ok (.iload_n 1, 1) := by decide +kernel
theorem dd_Mo_send_123 : decode bm_Mo_send 123 = .ok (.imul, 1) := by decide +kernel
theorem dd_Mo_send_124 : decode bm_Mo_send 124 = .ok (.iload 4, 2) := by decide +kernel
theorem dd_Mo_send_126 : decode bm_Mo_send 126 = .ok (.iadd, 1) := by decide +kernel
theorem dd_Mo_send_127 : decode bm_Mo_send 127 = .ok (.iaload, 1) := by decide +kernel
theorem dd_Mo_send_128 : decode bm_Mo_send 128 = .ok (.iload_n 2, 1) := by decide +kernel
theorem dd_Mo_send_129 : decode bm_Mo_send 129 = .ok (.if_icmp .ne 7, 3) := by decide +kernel
theorem dd_Mo_send_132 : decode bm_Mo_send 132 = .ok (.iconst 1, 1) := by decide +kernel
theorem dd_Mo_send_133 : decode bm_Mo_send 133 = .ok (.goto 4, 3) := by decide +kernel
theorem dd_Mo_send_136 : decode bm_Mo_send 136 = .ok (.iconst 0, 1) := by decide +kernel
theorem dd_Mo_send_137 : decode bm_Mo_send 137 = .ok (.istore 8, 2) := by decide +kernel
theorem dd_Mo_send_139 : decode bm_Mo_send 139 = .ok (.aload_n 0, 1) := by decide +kernel
theorem dd_Mo_send_140 : decode bm_Mo_send 140 = .ok (.getfield 65, 3) := by decide +kernel
theorem dd_Mo_send_143 : decode bm_Mo_send 143 = .ok (.iload 7, 2) := by decide +kernel
theorem dd_Mo_send_145 : decode bm_Mo_send 145 = .ok (.dup2, 1) := by decide +kernel
theorem dd_Mo_send_146 : decode bm_Mo_send 146 = .ok (.iaload, 1) := by decide +kernel
theorem dd_Mo_send_147 : decode bm_Mo_send 147 = .ok (.iload 5, 2) := by decide +kernel
theorem dd_Mo_send_149 : decode bm_Mo_send 149 = .ok (.isub, 1) := by decide +kernel
theorem dd_Mo_send_150 : decode bm_Mo_send 150 = .ok (.iastore, 1) := by decide +kernel
theorem dd_Mo_send_151 : decode bm_Mo_send 151 = .ok (.iload 8, 2) := by decide +kernel
theorem dd_Mo_send_153 : decode bm_Mo_send 153 = .ok (.ifCond .ne 25, 3) := by decide +kernel
theorem dd_Mo_send_156 : decode bm_Mo_send 156 = .ok (.aload_n 0, 1) := by decide +kernel
theorem dd_Mo_send_157 : decode bm_Mo_send 157 = .ok (.getfield 68, 3) := by decide +kernel
theorem dd_Mo_send_160 : decode bm_Mo_send 160 = .ok (.bipush 18, 2) := by decide +kernel
theorem dd_Mo_send_162 : decode bm_Mo_send 162 = .ok (.iload_n 1, 1) := by decide +kernel
theorem dd_Mo_send_163 : decode bm_Mo_send 163 = .ok (.imul, 1) := by decide +kernel
theorem dd_Mo_send_164 : decode bm_Mo_send 164 = .ok (.bipush 6, 2) := by decide +kernel
theorem dd_Mo_send_166 : decode bm_Mo_send 166 = .ok (.iload_n 2, 1) := by decide +kernel
theorem dd_Mo_send_167 : decode bm_Mo_send 167 = .ok (.imul, 1) := by decide +kernel
theorem dd_Mo_send_168 : decode bm_Mo_send 168 = .ok (.iadd, 1) := by decide +kernel
theorem dd_Mo_send_169 : decode bm_Mo_send 169 = .ok (.iload 4, 2) := by decide +kernel
theorem dd_Mo_send_171 : decode bm_Mo_send 171 = .ok (.iadd, 1) := by decide +kernel
theorem dd_Mo_send_172 : decode bm_Mo_send 172 = .ok (.dup2, 1) := by decide +kernel
theorem dd_Mo_send_173 : decode bm_Mo_send 173 = .ok (.iaload, 1) := by decide +kernel
theorem dd_Mo_send_174 : decode bm_Mo_send 174 = .ok (.iload 5, 2) := by decide +kernel
theorem dd_Mo_send_176 : decode bm_Mo_send 176 = .ok (.iadd, 1) := by decide +kernel
theorem dd_Mo_send_177 : decode bm_Mo_send 177 = .ok (.iastore, 1) := by decide +kernel
theorem dd_Mo_send_178 : decode bm_Mo_send 178 = .ok (.aload_n 0, 1) := by decide +kernel
theorem dd_Mo_send_179 : decode bm_Mo_send 179 = .ok (.getfield 35, 3) := by decide +kernel
theorem dd_Mo_send_182 : decode bm_Mo_send 182 = .ok (.iload 6, 2) := by decide +kernel
theorem dd_Mo_send_184 : decode bm_Mo_send 184 = .ok (.dup2, 1) := by decide +kernel
theorem dd_Mo_send_185 : decode bm_Mo_send 185 = .ok (.iaload, 1) := by decide +kernel
theorem dd_Mo_send_186 : decode bm_Mo_send 186 = .ok (.iconst 1, 1) := by decide +kernel
theorem dd_Mo_send_187 : decode bm_Mo_send 187 = .ok (.iadd, 1) := by decide +kernel
theorem dd_Mo_send_188 : decode bm_Mo_send 188 = .ok (.iastore, 1) := by decide +kernel
theorem dd_Mo_send_189 : decode bm_Mo_send 189 = .ok (.bipush 13, 2) := by decide +kernel
theorem dd_Mo_send_191 : decode bm_Mo_send 191 = .ok (.iload 6, 2) := by decide +kernel
theorem dd_Mo_send_193 : decode bm_Mo_send 193 = .ok (.imul, 1) := by decide +kernel
theorem dd_Mo_send_194 : decode bm_Mo_send 194 = .ok (.aload_n 0, 1) := by decide +kernel
theorem dd_Mo_send_195 : decode bm_Mo_send 195 = .ok (.getfield 35, 3) := by decide +kernel
theorem dd_Mo_send_198 : decode bm_Mo_send 198 = .ok (.iload 6, 2) := by decide +kernel
theorem dd_Mo_send_200 : decode bm_Mo_send 200 = .ok (.iaload, 1) := by decide +kernel
theorem dd_Mo_send_201 : decode bm_Mo_send 201 = .ok (.iadd, 1) := by decide +kernel
theorem dd_Mo_send_202 : decode bm_Mo_send 202 = .ok (.istore 9, 2) := by decide +kernel
theorem dd_Mo_send_204 : decode bm_Mo_send 204 = .ok (.aload_n 0, 1) := by decide +kernel
theorem dd_Mo_send_205 : decode bm_Mo_send 205 = .ok (.getfield 44, 3) := by decide +kernel
theorem dd_Mo_send_208 : decode bm_Mo_send 208 = .ok (.iload 9, 2) := by decide +kernel
theorem dd_Mo_send_210 : decode bm_Mo_send 210 = .ok (.iload 4, 2) := by decide +kernel
theorem dd_Mo_send_212 : decode bm_Mo_send 212 = .ok (.iastore, 1) := by decide +kernel
theorem dd_Mo_send_213 : decode bm_Mo_send 213 = .ok (.aload_n 0, 1) := by decide +kernel
theorem dd_Mo_send_214 : decode bm_Mo_send 214 = .ok (.getfield 47, 3) := by decide +kernel
theorem dd_Mo_send_217 : decode bm_Mo_send 217 = .ok (.iload 9, 2) := by decide +kernel
theorem dd_Mo_send_219 : decode bm_Mo_send 219 = .ok (.iload 5, 2) := by decide +kernel
theorem dd_Mo_send_221 : decode bm_Mo_send 221 = .ok (.iastore, 1) := by decide +kernel
theorem dd_Mo_send_222 : decode bm_Mo_send 222 = .ok (.aload_n 0, 1) := by decide +kernel
theorem dd_Mo_send_223 : decode bm_Mo_send 223 = .ok (.getfield 50, 3) := by decide +kernel
theorem dd_Mo_send_226 : decode bm_Mo_send 226 = .ok (.iload 9, 2) := by decide +kernel
theorem dd_Mo_send_228 : decode bm_Mo_send 228 = .ok (.iload_n 3, 1) := by decide +kernel
theorem dd_Mo_send_229 : decode bm_Mo_send 229 = .ok (.iastore, 1) := by decide +kernel
theorem dd_Mo_send_230 : decode bm_Mo_send 230 = .ok (.aload_n 0, 1) := by decide +kernel
theorem dd_Mo_send_231 : decode bm_Mo_send 231 = .ok (.getfield 53, 3) := by decide +kernel
theorem dd_Mo_send_234 : decode bm_Mo_send 234 = .ok (.iload 9, 2) := by decide +kernel
theorem dd_Mo_send_236 : decode bm_Mo_send 236 = .ok (.aload_n 0, 1) := by decide +kernel
theorem dd_Mo_send_237 : decode bm_Mo_send 237 = .ok (.getfield 17, 3) := by decide +kernel
theorem dd_Mo_send_240 : decode bm_Mo_send 240 = .ok (.iload_n 1, 1) := by decide +kernel
theorem dd_Mo_send_241 : decode bm_Mo_send 241 = .ok (.iaload, 1) := by decide +kernel
theorem dd_Mo_send_242 : decode bm_Mo_send 242 = .ok (.aload_n 0, 1) := by decide +kernel
theorem dd_Mo_send_243 : decode bm_Mo_send 243 = .ok (.getfield 86, 3) := by decide +kernel
theorem dd_Mo_send_246 : decode bm_Mo_send 246 = .ok (.iadd, 1) := by decide +kernel
theorem dd_Mo_send_247 : decode bm_Mo_send 247 = .ok (.iastore, 1) := by decide +kernel
theorem dd_Mo_send_248 : decode bm_Mo_send 248 = .ok (.aload_n 0, 1) := by decide +kernel
theorem dd_Mo_send_249 : decode bm_Mo_send 249 = .ok (.getfield 56, 3) := by decide +kernel
theorem dd_Mo_send_252 : decode bm_Mo_send 252 = .ok (.iload 9, 2) := by decide +kernel
theorem dd_Mo_send_254 : decode bm_Mo_send 254 = .ok (.iload 8, 2) := by decide +kernel
theorem dd_Mo_send_256 : decode bm_Mo_send 256 = .ok (.ifCond .eq 20, 3) := by decide +kernel
theorem dd_Mo_send_259 : decode bm_Mo_send 259 = .ok (.iconst 1, 1) := by decide +kernel
theorem dd_Mo_send_260 : decode bm_Mo_send 260 = .ok (.aload_n 0, 1) := by decide +kernel
theorem dd_Mo_send_261 : decode bm_Mo_send 261 = .ok (.getfield 74, 3) := by decide +kernel
theorem dd_Mo_send_264 : decode bm_Mo_send 264 = .ok (.bipush 6, 2) := by decide +kernel
theorem dd_Mo_send_266 : decode bm_Mo_send 266 = .ok (.iload_n 1, 1) := by decide +kernel
theorem dd_Mo_send_267 : decode bm_Mo_send 267 = .ok (.imul, 1) := by decide +kernel
theorem dd_Mo_send_268 : decode bm_Mo_send 268 = .ok (.iload 4, 2) := by decide +kernel
theorem dd_Mo_send_270 : decode bm_Mo_send 270 = .ok (.iadd, 1) := by decide +kernel
theorem dd_Mo_send_271 : decode bm_Mo_send 271 = .ok (.iaload, 1) := by decide +kernel
theorem dd_Mo_send_272 : decode bm_Mo_send 272 = .ok (.iadd, 1) := by decide +kernel
theorem dd_Mo_send_273 : decode bm_Mo_send 273 = .ok (.goto 4, 3) := by decide +kernel
theorem dd_Mo_send_276 : decode bm_Mo_send 276 = .ok (.iconst 0, 1) := by decide +kernel
theorem dd_Mo_send_277 : decode bm_Mo_send 277 = .ok (.iastore, 1) := by decide +kernel
theorem dd_Mo_send_278 : decode bm_Mo_send 278 = .ok (.aload_n 0, 1) := by decide +kernel
theorem dd_Mo_send_279 : decode bm_Mo_send 279 = .ok (.getfield 35, 3) := by decide +kernel
theorem dd_Mo_send_282 : decode bm_Mo_send 282 = .ok (.iload 6, 2) := by decide +kernel
theorem dd_Mo_send_284 : decode bm_Mo_send 284 = .ok (.iaload, 1) := by decide +kernel
theorem dd_Mo_send_285 : decode bm_Mo_send 285 = .ok (.ireturn, 1) := by decide +kernel
theorem dd_Mo_voucherFor_0 : decode bm_Mo_voucherFor 0 = .ok (.iconst 1, 1) := by decide +kernel
theorem dd_Mo_voucherFor_1 : decode bm_Mo_voucherFor 1 = .ok (.istore 4, 2) := by decide +kernel
theorem dd_Mo_voucherFor_3 : decode bm_Mo_voucherFor 3 = .ok (.iload 4, 2) := by decide +kernel
theorem dd_Mo_voucherFor_5 : decode bm_Mo_voucherFor 5 = .ok (.aload_n 0, 1) := by decide +kernel
theorem dd_Mo_voucherFor_6 : decode bm_Mo_voucherFor 6 = .ok (.getfield 71, 3) := by decide +kernel
theorem dd_Mo_voucherFor_9 : decode bm_Mo_voucherFor 9 = .ok (.iload_n 1, 1) := by decide +kernel
theorem dd_Mo_voucherFor_10 : decode bm_Mo_voucherFor 10 = .ok (.iaload, 1) := by decide +kernel
theorem dd_Mo_voucherFor_11 : decode bm_Mo_voucherFor 11 = .ok (.if_icmp .gt 44, 3) := by decide +kernel
theorem dd_Mo_voucherFor_14 : decode bm_Mo_voucherFor 14 = .ok (.aload_n 0, 1) := by decide +kernel
theorem dd_Mo_voucherFor_15 : decode bm_Mo_voucherFor 15 = .ok (.getfield 74, 3) := by decide +kernel
theorem dd_Mo_voucherFor_18 : decode bm_Mo_voucherFor 18 = .ok (.bipush 6, 2) := by decide +kernel
theorem dd_Mo_voucherFor_20 : decode bm_Mo_voucherFor 20 = .ok (.iload_n 1, 1) := by decide +kernel
theorem dd_Mo_voucherFor_21 : decode bm_Mo_voucherFor 21 = .ok (.imul, 1) := by decide +kernel
theorem dd_Mo_voucherFor_22 : decode bm_Mo_voucherFor 22 = .ok (.iload 4, 2) := by decide +kernel
theorem dd_Mo_voucherFor_24 : decode bm_Mo_voucherFor 24 = .ok (.iadd, 1) := by decide +kernel
theorem dd_Mo_voucherFor_25 : decode bm_Mo_voucherFor 25 = .ok (.iaload, 1) := by decide +kernel
theorem dd_Mo_voucherFor_26 : decode bm_Mo_voucherFor 26 = .ok (.iload_n 2, 1) := by decide +kernel
theorem dd_Mo_voucherFor_27 : decode bm_Mo_voucherFor 27 = .ok (.if_icmp .ne 22, 3) := by decide +kernel
theorem dd_Mo_voucherFor_30 : decode bm_Mo_voucherFor 30 = .ok (.aload_n 0, 1) := by decide +kernel
theorem dd_Mo_voucherFor_31 : decode bm_Mo_voucherFor 31 = .ok (.getfield 77, 3) := by decide +kernel
theorem dd_Mo_voucherFor_34 : decode bm_Mo_voucherFor 34 = .ok (.bipush 6, 2) := by decide +kernel
theorem dd_Mo_voucherFor_36 : decode bm_Mo_voucherFor 36 = .ok (.iload_n 1, 1) := by decide +kernel
theorem dd_Mo_voucherFor_37 : decode bm_Mo_voucherFor 37 = .ok (.imul, 1) := by decide +kernel
theorem dd_Mo_voucherFor_38 : decode bm_Mo_voucherFor 38 = .ok (.iload 4, 2) := by decide +kernel
theorem dd_Mo_voucherFor_40 : decode bm_Mo_voucherFor 40 = .ok (.iadd, 1) := by decide +kernel
theorem dd_Mo_voucherFor_41 : decode bm_Mo_voucherFor 41 = .ok (.iaload, 1) := by decide +kernel
theorem dd_Mo_voucherFor_42 : decode bm_Mo_voucherFor 42 = .ok (.iload_n 3, 1) := by decide +kernel
theorem dd_Mo_voucherFor_43 : decode bm_Mo_voucherFor 43 = .ok (.if_icmp .ne 6, 3) := by decide +kernel
theorem dd_Mo_voucherFor_46 : decode bm_Mo_voucherFor 46 = .ok (.iload 4, 2) := by decide +kernel
theorem dd_Mo_voucherFor_48 : decode bm_Mo_voucherFor 48 = .ok (.ireturn, 1) := by decide +kernel
theorem dd_Mo_voucherFor_49 : decode bm_Mo_voucherFor 49 = .ok (.iinc 4 1, 3) := by decide +kernel
theorem dd_Mo_voucherFor_52 : decode bm_Mo_voucherFor 52 = .ok (.goto (-49), 3) := by decide +kernel
theorem dd_Mo_voucherFor_55 : decode bm_Mo_voucherFor 55 = .ok (.iconst 0, 1) := by decide +kernel
theorem dd_Mo_voucherFor_56 : decode bm_Mo_voucherFor 56 = .ok (.ireturn, 1) := by decide +kernel
theorem dd_Mo_takes_0 : decode bm_Mo_takes 0 = .ok (.aload_n 0, 1) := by decide +kernel
theorem dd_Mo_takes_1 : decode bm_Mo_takes 1 = .ok (.getfield 50, 3) := by decide +kernel
theorem dd_Mo_takes_4 : decode bm_Mo_takes 4 = .ok (.iload_n 3, 1) := by decide +kernel
theorem dd_Mo_takes_5 : decode bm_Mo_takes 5 = .ok (.iaload, 1) := by decide +kernel
theorem dd_Mo_takes_6 : decode bm_Mo_takes 6 = .ok (.iconst 4, 1) := by decide +kernel
theorem dd_Mo_takes_7 : decode bm_Mo_takes 7 = .ok (.irem, 1) := by decide +kernel
theorem dd_Mo_takes_8 : decode bm_Mo_takes 8 = .ok (.istore 5, 2) := by decide +kernel
theorem dd_Mo_takes_10 : decode bm_Mo_takes 10 = .ok (.iload 5, 2) := by decide +kernel
theorem dd_Mo_takes_12 : decode bm_Mo_takes 12 = .ok (.iconst 3, 1) := by decide +kernel
theorem dd_Mo_takes_13 : decode bm_Mo_takes 13 = .ok (.if_icmp .ne 5, 3) := by decide +kernel
theorem dd_Mo_takes_16 : decode bm_Mo_takes 16 = .ok (.iconst 0, 1) := by decide +kernel
theorem dd_Mo_takes_17 : decode bm_Mo_takes 17 = .ok (.ireturn, 1) := by decide +kernel
theorem dd_Mo_takes_18 : decode bm_Mo_takes 18 = .ok (.aload_n 0, 1) := by decide +kernel
theorem dd_Mo_takes_19 : decode bm_Mo_takes 19 = .ok (.getfield 56, 3) := by decide +kernel
theorem dd_Mo_takes_22 : decode bm_Mo_takes 22 = .ok (.iload_n 3, 1) := by decide +kernel
theorem dd_Mo_takes_23 : decode bm_Mo_takes 23 = .ok (.iaload, 1) := by decide +kernel
theorem dd_Mo_takes_24 : decode bm_Mo_takes 24 = .ok (.ifCond .le 78, 3) := by decide +kernel
theorem dd_Mo_takes_27 : decode bm_Mo_takes 27 = .ok (.aload_n 0, 1) := by decide +kernel
theorem dd_Mo_takes_28 : decode bm_Mo_takes 28 = .ok (.getfield 56, 3) := by decide +kernel
theorem dd_Mo_takes_31 : decode bm_Mo_takes 31 = .ok (.iload_n 3, 1) := by decide +kernel
theorem dd_Mo_takes_32 : decode bm_Mo_takes 32 = .ok (.iaload, 1) := by decide +kernel
theorem dd_Mo_takes_33 : decode bm_Mo_takes 33 = .ok (.iconst 1, 1) := by decide +kernel
theorem dd_Mo_takes_34 : decode bm_Mo_takes 34 = .ok (.isub, 1) := by decide +kernel
theorem dd_Mo_takes_35 : decode bm_Mo_takes 35 = .ok (.istore 6, 2) := by decide +kernel
theorem dd_Mo_takes_37 : decode bm_Mo_takes 37 = .ok (.bipush 18, 2) := by decide +kernel
theorem dd_Mo_takes_39 : decode bm_Mo_takes 39 = .ok (.iload_n 1, 1) := by decide +kernel
theorem dd_Mo_takes_40 : decode bm_Mo_takes 40 = .ok (.imul, 1) := by decide +kernel
theorem dd_Mo_takes_41 : decode bm_Mo_takes 41 = .ok (.bipush 6, 2) := by decide +kernel
theorem dd_Mo_takes_43 : decode bm_Mo_takes 43 = .ok (.iload_n 2, 1) := by decide +kernel
theorem dd_Mo_takes_44 : decode bm_Mo_takes 44 = .ok (.imul, 1) := by decide +kernel
theorem dd_Mo_takes_45 : decode bm_Mo_takes 45 = .ok (.iadd, 1) := by decide +kernel
theorem dd_Mo_takes_46 : decode bm_Mo_takes 46 = .ok (.iload 6, 2) := by decide +kernel
theorem dd_Mo_takes_48 : decode bm_Mo_takes 48 = .ok (.iadd, 1) := by decide +kernel
theorem dd_Mo_takes_49 : decode bm_Mo_takes 49 = .ok (.istore 7, 2) := by decide +kernel
theorem dd_Mo_takes_51 : decode bm_Mo_takes 51 = .ok (.aload_n 0, 1) := by decide +kernel
theorem dd_Mo_takes_52 : decode bm_Mo_takes 52 = .ok (.getfield 68, 3) := by decide +kernel
theorem dd_Mo_takes_55 : decode bm_Mo_takes 55 = .ok (.iload 7, 2) := by decide +kernel
theorem dd_Mo_takes_57 : decode bm_Mo_takes 57 = .ok (.iaload, 1) := by decide +kernel
theorem dd_Mo_takes_58 : decode bm_Mo_takes 58 = .ok (.iload 4, 2) := by decide +kernel
theorem dd_Mo_takes_60 : decode bm_Mo_takes 60 = .ok (.if_icmp .ge 5, 3) := by decide +kernel
theorem dd_Mo_takes_63 : decode bm_Mo_takes 63 = .ok (.iconst 0, 1) := by decide +kernel
theorem dd_Mo_takes_64 : decode bm_Mo_takes 64 = .ok (.ireturn, 1) := by decide +kernel
theorem dd_Mo_takes_65 : decode bm_Mo_takes 65 = .ok (.aload_n 0, 1) := by decide +kernel
theorem dd_Mo_takes_66 : decode bm_Mo_takes 66 = .ok (.getfield 68, 3) := by decide +kernel
theorem dd_Mo_takes_69 : decode bm_Mo_takes 69 = .ok (.iload 7, 2) := by decide +kernel
theorem dd_Mo_takes_71 : decode bm_Mo_takes 71 = .ok (.dup2, 1) := by decide +kernel
theorem dd_Mo_takes_72 : decode bm_Mo_takes 72 = .ok (.iaload, 1) := by decide +kernel
theorem dd_Mo_takes_73 : decode bm_Mo_takes 73 = .ok (.iload 4, 2) := by decide +kernel
theorem dd_Mo_takes_75 : decode bm_Mo_takes 75 = .ok (.isub, 1) := by decide +kernel
theorem dd_Mo_takes_76 : decode bm_Mo_takes 76 = .ok (.iastore, 1) := by decide +kernel
theorem dd_Mo_takes_77 : decode bm_Mo_takes 77 = .ok (.aload_n 0, 1) := by decide +kernel
theorem dd_Mo_takes_78 : decode bm_Mo_takes 78 = .ok (.getfield 65, 3) := by decide +kernel
theorem dd_Mo_takes_81 : decode bm_Mo_takes 81 = .ok (.bipush 24, 2) := by decide +kernel
theorem dd_Mo_takes_83 : decode bm_Mo_takes 83 = .ok (.iload_n 1, 1) := by decide +kernel
theorem dd_Mo_takes_84 : decode bm_Mo_takes 84 = .ok (.imul, 1) := by decide +kernel
theorem dd_Mo_takes_85 : decode bm_Mo_takes 85 = .ok (.bipush 6, 2) := by decide +kernel
theorem dd_Mo_takes_87 : decode bm_Mo_takes 87 = .ok (.iload 5, 2) := by decide +kernel
theorem dd_Mo_takes_89 : decode bm_Mo_takes 89 = .ok (.imul, 1) := by decide +kernel
theorem dd_Mo_takes_90 : decode bm_Mo_takes 90 = .ok (.iadd, 1) := by decide +kernel
theorem dd_Mo_takes_91 : decode bm_Mo_takes 91 = .ok (.iload 6, 2) := by decide +kernel
theorem dd_Mo_takes_93 : decode bm_Mo_takes 93 = .ok (.iadd, 1) := by decide +kernel
theorem dd_Mo_takes_94 : decode bm_Mo_takes 94 = .ok (.dup2, 1) := by decide +kernel
theorem dd_Mo_takes_95 : decode bm_Mo_takes 95 = .ok (.iaload, 1) := by decide +kernel
theorem dd_Mo_takes_96 : decode bm_Mo_takes 96 = .ok (.iload 4, 2) := by decide +kernel
theorem dd_Mo_takes_98 : decode bm_Mo_takes 98 = .ok (.iadd, 1) := by decide +kernel
theorem dd_Mo_takes_99 : decode bm_Mo_takes 99 = .ok (.iastore, 1) := by decide +kernel
theorem dd_Mo_takes_100 : decode bm_Mo_takes 100 = .ok (.iconst 1, 1) := by decide +kernel
theorem dd_Mo_takes_101 : decode bm_Mo_takes 101 = .ok (.ireturn, 1) := by decide +kernel
theorem dd_Mo_takes_102 : decode bm_Mo_takes 102 = .ok (.aload_n 0, 1) := by decide +kernel
theorem dd_Mo_takes_103 : decode bm_Mo_takes 103 = .ok (.iload_n 1, 1) := by decide +kernel
theorem dd_Mo_takes_104 : decode bm_Mo_takes 104 = .ok (.aload_n 0, 1) := by decide +kernel
theorem dd_Mo_takes_105 : decode bm_Mo_takes 105 = .ok (.getfield 44, 3) := by decide +kernel
theorem dd_Mo_takes_108 : decode bm_Mo_takes 108 = .ok (.iload_n 3, 1) := by decide +kernel
theorem dd_Mo_takes_109 : decode bm_Mo_takes 109 = .ok (.iaload, 1) := by decide +kernel
theorem dd_Mo_takes_110 : decode bm_Mo_takes 110 = .ok (.iload_n 2, 1) := by decide +kernel
theorem dd_Mo_takes_111 : decode bm_Mo_takes 111 = .ok (.invokevirtual 132, 3) := by decide +kernel
theorem dd_Mo_takes_114 : decode bm_Mo_takes 114 = .ok (.istore 6, 2) := by decide +kernel
theorem dd_Mo_takes_116 : decode bm_Mo_takes 116 = .ok (.iload 6, 2) := by decide +kernel
theorem dd_Mo_takes_118 : decode bm_Mo_takes 118 = .ok (.ifCond .ne 15, 3) := by decide +kernel
theorem dd_Mo_takes_121 : decode bm_Mo_takes 121 = .ok (.aload_n 0, 1) := by decide +kernel
theorem dd_Mo_takes_122 : decode bm_Mo_takes 122 = .ok (.getfield 71, 3) := by decide +kernel
theorem dd_Mo_takes_125 : decode bm_Mo_takes 125 = .ok (.iload_n 1, 1) := by decide +kernel
theorem dd_Mo_takes_126 : decode bm_Mo_takes 126 = .ok (.iaload, 1) := by decide +kernel
theorem dd_Mo_takes_127 : decode bm_Mo_takes 127 = .ok (.iconst 5, 1) := by decide +kernel
theorem dd_Mo_takes_128 : decode bm_Mo_takes 128 = .ok (.if_icmp .ne 5, 3) := by decide +kernel
theorem dd_Mo_takes_131 : decode bm_Mo_takes 131 = .ok (.iconst 0, 1) := by decide +kernel
theorem dd_Mo_takes_132 : decode bm_Mo_takes 132 = .ok (.ireturn, 1) := by decide +kernel
theorem dd_Mo_takes_133 : decode bm_Mo_takes 133 = .ok (.iload 6, 2) := by decide +kernel
theorem dd_Mo_takes_135 : decode bm_Mo_takes 135 = .ok (.ifCond .ne 52, 3) := by decide +kernel
theorem dd_Mo_takes_138 : decode bm_Mo_takes 138 = .ok (.aload_n 0, 1) := by decide +kernel
theorem dd_Mo_takes_139 : decode bm_Mo_takes 139 = .ok (.getfield 71, 3) := by decide +kernel
theorem dd_Mo_takes_142 : decode bm_Mo_takes 142 = .ok (.iload_n 1, 1) := by decide +kernel
theorem dd_Mo_takes_143 : decode bm_Mo_takes 143 = .ok (.dup2, 1) := by decide +kernel
theorem dd_Mo_takes_144 : decode bm_Mo_takes 144 = .ok (.iaload, 1) := by decide +kernel
theorem dd_Mo_takes_145 : decode bm_Mo_takes 145 = .ok (.iconst 1, 1) := by decide +kernel
theorem dd_Mo_takes_146 : decode bm_Mo_takes 146 = .ok (.iadd, 1) := by decide +kernel
theorem dd_Mo_takes_147 : decode bm_Mo_takes 147 = .ok (.iastore, 1) := by decide +kernel
theorem dd_Mo_takes_148 : decode bm_Mo_takes 148 = .ok (.aload_n 0, 1) := by decide +kernel
theorem dd_Mo_takes_149 : decode bm_Mo_takes 149 = .ok (.getfield 71, 3) := by decide +kernel
theorem dd_Mo_takes_152 : decode bm_Mo_takes 152 = .ok (.iload_n 1, 1) := by decide +kernel
theorem dd_Mo_takes_153 : decode bm_Mo_takes 153 = .ok (.iaload, 1) := by decide +kernel
theorem dd_Mo_takes_154 : decode bm_Mo_takes 154 = .ok (.istore 6, 2) := by decide +kernel
theorem dd_Mo_takes_156 : decode bm_Mo_takes 156 = .ok (.aload_n 0, 1) := by decide +kernel
theorem dd_Mo_takes_157 : decode bm_Mo_takes 157 = .ok (.getfield 74, 3) := by decide +kernel
theorem dd_Mo_takes_160 : decode bm_Mo_takes 160 = .ok (.bipush 6, 2) := by decide +kernel
theorem dd_Mo_takes_162 : decode bm_Mo_takes 162 = .ok (.iload_n 1, 1) := by decide +kernel
theorem dd_Mo_takes_163 : decode bm_Mo_takes 163 = .ok (.imul, 1) := by decide +kernel
theorem dd_Mo_takes_164 : decode bm_Mo_takes 164 = .ok (.iload 6, 2) := by decide +kernel
theorem dd_Mo_takes_166 : decode bm_Mo_takes 166 = .ok (.iadd, 1) := by decide +kernel
theorem dd_Mo_takes_167 : decode bm_Mo_takes 167 = .ok (.aload_n 0, 1) := by decide +kernel
theorem dd_Mo_takes_168 : decode bm_Mo_takes 168 = .ok (.getfield 44, 3) := by decide +kernel
theorem dd_Mo_takes_171 : decode bm_Mo_takes 171 = .ok (.iload_n 3, 1) := by decide +kernel
theorem dd_Mo_takes_172 : decode bm_Mo_takes 172 = .ok (.iaload, 1) := by decide +kernel
theorem dd_Mo_takes_173 : decode bm_Mo_takes 173 = .ok (.iastore, 1) := by decide +kernel
theorem dd_Mo_takes_174 : decode bm_Mo_takes 174 = .ok (.aload_n 0, 1) := by decide +kernel
theorem dd_Mo_takes_175 : decode bm_Mo_takes 175 = .ok (.getfield 77, 3) := by decide +kernel
theorem dd_Mo_takes_178 : decode bm_Mo_takes 178 = .ok (.bipush 6, 2) := by decide +kernel
theorem dd_Mo_takes_180 : decode bm_Mo_takes 180 = .ok (.iload_n 1, 1) := by decide +kernel
theorem dd_Mo_takes_181 : decode bm_Mo_takes 181 = .ok (.imul, 1) := by decide +kernel
theorem dd_Mo_takes_182 : decode bm_Mo_takes 182 = .ok (.iload 6, 2) := by decide +kernel
theorem dd_Mo_takes_184 : decode bm_Mo_takes 184 = .ok (.iadd, 1) := by decide +kernel
theorem dd_Mo_takes_185 : decode bm_Mo_takes 185 = .ok (.iload_n 2, 1) := by decide +kernel
theorem dd_Mo_takes_186 : decode bm_Mo_takes 186 = .ok (.iastore, 1) := by decide +kernel
theorem dd_Mo_takes_187 : decode bm_Mo_takes 187 = .ok (.aload_n 0, 1) := by decide +kernel
theorem dd_Mo_takes_188 : decode bm_Mo_takes 188 = .ok (.getfield 65, 3) := by decide +kernel
theorem dd_Mo_takes_191 : decode bm_Mo_takes 191 = .ok (.bipush 24, 2) := by decide +kernel
theorem dd_Mo_takes_193 : decode bm_Mo_takes 193 = .ok (.iload_n 1, 1) := by decide +kernel
theorem dd_Mo_takes_194 : decode bm_Mo_takes 194 = .ok (.imul, 1) := by decide +kernel
theorem dd_Mo_takes_195 : decode bm_Mo_takes 195 = .ok (.bipush 6, 2) := by decide +kernel
theorem dd_Mo_takes_197 : decode bm_Mo_takes 197 = .ok (.iload 5, 2) := by decide +kernel
theorem dd_Mo_takes_199 : decode bm_Mo_takes 199 = .ok (.imul, 1) := by decide +kernel
theorem dd_Mo_takes_200 : decode bm_Mo_takes 200 = .ok (.iadd, 1) := by decide +kernel
theorem dd_Mo_takes_201 : decode bm_Mo_takes 201 = .ok (.iload 6, 2) := by decide +kernel
theorem dd_Mo_takes_203 : decode bm_Mo_takes 203 = .ok (.iadd, 1) := by decide +kernel
theorem dd_Mo_takes_204 : decode bm_Mo_takes 204 = .ok (.dup2, 1) := by decide +kernel
theorem dd_Mo_takes_205 : decode bm_Mo_takes 205 = .ok (.iaload, 1) := by decide +kernel
theorem dd_Mo_takes_206 : decode bm_Mo_takes 206 = .ok (.iload 4, 2) := by decide +kernel
theorem dd_Mo_takes_208 : decode bm_Mo_takes 208 = .ok (.iadd, 1) := by decide +kernel
theorem dd_Mo_takes_209 : decode bm_Mo_takes 209 = .ok (.iastore, 1) := by decide +kernel
theorem dd_Mo_takes_210 : decode bm_Mo_takes 210 = .ok (.iconst 1, 1) := by decide +kernel
theorem dd_Mo_takes_211 : decode bm_Mo_takes 211 = .ok (.ireturn, 1) := by decide +kernel
theorem dd_Mo_receive_0 : decode bm_Mo_receive 0 = .ok (.iload_n 1, 1) := by decide +kernel
theorem dd_Mo_receive_1 : decode bm_Mo_receive 1 = .ok (.iload_n 2, 1) := by decide +kernel
theorem dd_Mo_receive_2 : decode bm_Mo_receive 2 = .ok (.invokestatic 121, 3) := by decide +kernel
theorem dd_Mo_receive_5 : decode bm_Mo_receive 5 = .ok (.ifCond .eq 23, 3) := by decide +kernel
theorem dd_Mo_receive_8 : decode bm_Mo_receive 8 = .ok (.iload_n 3, 1) := by decide +kernel
theorem dd_Mo_receive_9 : decode bm_Mo_receive 9 = .ok (.iconst 1, 1) := by decide +kernel
theorem dd_Mo_receive_10 : decode bm_Mo_receive 10 = .ok (.aload_n 0, 1) := by decide +kernel
theorem dd_Mo_receive_11 : decode bm_Mo_receive 11 = .ok (.getfield 35, 3) := by decide +kernel
theorem dd_Mo_receive_14 : decode bm_Mo_receive 14 = .ok (.iconst 3, 1) := by decide +kernel
theorem dd_Mo_receive_15 : decode bm_Mo_receive 15 = .ok (.iconst 1, 1) := by decide +kernel
theorem dd_Mo_receive_16 : decode bm_Mo_receive 16 = .ok (.iload_n 1, 1) := by decide +kernel
theorem dd_Mo_receive_17 : decode bm_Mo_receive 17 = .ok (.isub, 1) := by decide +kernel
theorem dd_Mo_receive_18 : decode bm_Mo_receive 18 = .ok (.imul, 1) := by decide +kernel
theorem dd_Mo_receive_19 : decode bm_Mo_receive 19 = .ok (.iload_n 2, 1) := by decide +kernel
theorem dd_Mo_receive_20 : decode bm_Mo_receive 20 = .ok (.iadd, 1) := by decide +kernel
theorem dd_Mo_receive_21 : decode bm_Mo_receive 21 = .ok (.iaload, 1) := by decide +kernel
theorem dd_Mo_receive_22 : decode bm_Mo_receive 22 = .ok (.invokestatic 91, 3) := by decide +kernel
theorem dd_Mo_receive_25 : decode bm_Mo_receive 25 = .ok (.ifCond .eq 5, 3) := by decide +kernel
theorem dd_Mo_receive_28 : decode bm_Mo_receive 28 = .ok (.iconst (-1), 1) := by decide +kernel
theorem dd_Mo_receive_29 : decode bm_Mo_receive 29 = .ok (.ireturn, 1) := by decide +kernel
theorem dd_Mo_receive_30 : decode bm_Mo_receive 30 = .ok (.iconst 3, 1) := by decide +kernel
theorem dd_Mo_receive_31 : decode bm_Mo_receive 31 = .ok (.iload_n 1, 1) := by decide +kernel
theorem dd_Mo_receive_32 : decode bm_Mo_receive 32 = .ok (.imul, 1) := by decide +kernel
theorem dd_Mo_receive_33 : decode bm_Mo_receive 33 = .ok (.iload_n 2, 1) := by decide +kernel
theorem dd_Mo_receive_34 : decode bm_Mo_receive 34 = .ok (.iadd, 1) := by decide +kernel
theorem dd_Mo_receive_35 : decode bm_Mo_receive 35 = .ok (.istore 6, 2) := by decide +kernel
theorem dd_Mo_receive_37 : decode bm_Mo_receive 37 = .ok (.bipush 13, 2) := by decide +kernel
theorem dd_Mo_receive_39 : decode bm_Mo_receive 39 = .ok (.iconst 3, 1) := by decide +kernel
theorem dd_Mo_receive_40 : decode bm_Mo_receive 40 = .ok (.iconst 1, 1) := by decide +kernel
theorem dd_Mo_receive_41 : decode bm_Mo_receive 41 = .ok (.iload_n 1, 1) := by decide +kernel
theorem dd_Mo_receive_42 : decode bm_Mo_receive 42 = .ok (.isub, 1) := by decide +kernel
theorem dd_Mo_receive_43 : decode bm_Mo_receive 43 = .ok (.imul, 1) := by decide +kernel
theorem dd_Mo_receive_44 : decode bm_Mo_receive 44 = .ok (.iload_n 2, 1) := by decide +kernel
theorem dd_Mo_receive_45 : decode bm_Mo_receive 45 = .ok (.iadd, 1) := by decide +kernel
theorem dd_Mo_receive_46 : decode bm_Mo_receive 46 = .ok (.imul, 1) := by decide +kernel
theorem dd_Mo_receive_47 : decode bm_Mo_receive 47 = .ok (.iload_n 3, 1) := by decide +kernel
theorem dd_Mo_receive_48 : decode bm_Mo_receive 48 = .ok (.iadd, 1) := by decide +kernel
theorem dd_Mo_receive_49 : decode bm_Mo_receive 49 = .ok (.istore 7, 2) := by decide +kernel
theorem dd_Mo_receive_51 : decode bm_Mo_receive 51 = .ok (.aload_n 0, 1) := by decide +kernel
theorem dd_Mo_receive_52 : decode bm_Mo_receive 52 = .ok (.getfield 29, 3) := by decide +kernel
theorem dd_Mo_receive_55 : decode bm_Mo_receive 55 = .ok (.iload 6, 2) := by decide +kernel
theorem dd_Mo_receive_57 : decode bm_Mo_receive 57 = .ok (.iaload, 1) := by decide +kernel
theorem dd_Mo_receive_58 : decode bm_Mo_receive 58 = .ok (.iconst 3, 1) := by decide +kernel
theorem dd_Mo_receive_59 : decode bm_Mo_receive 59 = .ok (.if_icmp .eq 6, 3) := by decide +kernel
theorem dd_Mo_receive_62 : decode bm_Mo_receive 62 = .ok (.bipush (-2), 2) := by decide +kernel
theorem dd_Mo_receive_64 : decode bm_Mo_receive 64 = .ok (.ireturn, 1) := by decide +kernel
theorem dd_Mo_receive_65 : decode bm_Mo_receive 65 = .ok (.aload_n 0, 1) := by decide +kernel
theorem dd_Mo_receive_66 : decode bm_Mo_receive 66 = .ok (.getfield 7, 3) := by decide +kernel
theorem dd_Mo_receive_69 : decode bm_Mo_receive 69 = .ok (.iload_n 1, 1) := by decide +kernel
theorem dd_Mo_receive_70 : decode bm_Mo_receive 70 = .ok (.iaload, 1) := by decide +kernel
theorem dd_Mo_receive_71 : decode bm_Mo_receive 71 = .ok (.aload_n 0, 1) := by decide +kernel
theorem dd_Mo_receive_72 : decode bm_Mo_receive 72 = .ok (.getfield 53, 3) := by decide +kernel
theorem dd_Mo_receive_75 : decode bm_Mo_receive 75 = .ok (.iload 7, 2) := by decide +kernel
theorem dd_Mo_receive_77 : decode bm_Mo_receive 77 = .ok (.iaload, 1) := by decide +kernel
theorem dd_Mo_receive_78 : decode bm_Mo_receive 78 = .ok (.if_icmp .lt 6, 3) := by decide +kernel
theorem dd_Mo_receive_81 : decode bm_Mo_receive 81 = .ok (.bipush (-9), 2) := by decide +kernel
theorem dd_Mo_receive_83 : decode bm_Mo_receive 83 = .ok (.ireturn, 1) := by decide +kernel
theorem dd_Mo_receive_84 : decode bm_Mo_receive 84 = .ok (.aload_n 0, 1) := by decide +kernel
theorem dd_Mo_receive_85 : decode bm_Mo_receive 85 = .ok (.getfield 32, 3) := by decide +kernel
theorem dd_Mo_receive_88 : decode bm_Mo_receive 88 = .ok (.iload 6, 2) := by decide +kernel
theorem dd_Mo_receive_90 : decode bm_Mo_receive 90 = .ok (.baload, 1) := by decide +kernel
theorem dd_Mo_receive_91 : decode bm_Mo_receive 91 = .ok (.ifCond .eq 17, 3) := by decide +kernel
theorem dd_Mo_receive_94 : decode bm_Mo_receive 94 = .ok (.iload_n 3, 1) := by decide +kernel
theorem dd_Mo_receive_95 : decode bm_Mo_receive 95 = .ok (.aload_n 0, 1) := by decide +kernel
theorem dd_Mo_receive_96 : decode bm_Mo_receive 96 = .ok (.getfield 38, 3) := by decide +kernel
theorem dd_Mo_receive_99 : decode bm_Mo_receive 99 = .ok (.iload 6, 2) := by decide +kernel
theorem dd_Mo_receive_101 : decode bm_Mo_receive 101 = .ok (.iaload, 1) := by decide +kernel
theorem dd_Mo_receive_102 : decode bm_Mo_receive 102 = .ok (.if_icmp .eq 19, 3) := by decide +kernel
theorem dd_Mo_receive_105 : decode bm_Mo_receive 105 = .ok (.goto 13, 3) := by decide +kernel
theorem dd_Mo_receive_108 : decode bm_Mo_receive 108 = .ok (.aload_n 0, 1) := by decide +kernel
theorem dd_Mo_receive_109 : decode bm_Mo_receive 109 = .ok (.getfield 62, 3) := by decide +kernel
theorem dd_Mo_receive_112 : decode bm_Mo_receive 112 = .ok (.iload 7, 2) := by decide +kernel
theorem dd_Mo_receive_114 : decode bm_Mo_receive 114 = .ok (.iaload, 1) := by decide +kernel
theorem dd_Mo_receive_115 : decode bm_Mo_receive 115 = .ok (.ifCond .le 6, 3) := by decide +kernel
theorem dd_Mo_receive_118 : decode bm_Mo_receive 118 = .ok (.bipush (-8), 2) := by decide +kernel
theorem dd_Mo_receive_120 : decode bm_Mo_receive 120 = .ok (.ireturn, 1) := by decide +kernel
theorem dd_Mo_receive_121 : decode bm_Mo_receive 121 = .ok (.aload_n 0, 1) := by decide +kernel
theorem dd_Mo_receive_122 : decode bm_Mo_receive 122 = .ok (.getfield 47, 3) := by decide +kernel
theorem dd_Mo_receive_125 : decode bm_Mo_receive 125 = .ok (.iload 7, 2) := by decide +kernel
theorem dd_Mo_receive_127 : decode bm_Mo_receive 127 = .ok (.iaload, 1) := by decide +kernel
theorem dd_Mo_receive_128 : decode bm_Mo_receive 128 = .ok (.iload 5, 2) := by decide +kernel
theorem dd_Mo_receive_130 : decode bm_Mo_receive 130 = .ok (.invokestatic 124, 3) := by decide +kernel
theorem dd_Mo_receive_133 : decode bm_Mo_receive 133 = .ok (.iadd, 1) := by decide +kernel
theorem dd_Mo_receive_134 : decode bm_Mo_receive 134 = .ok (.istore 8, 2) := by decide +kernel
theorem dd_Mo_receive_136 : decode bm_Mo_receive 136 = .ok (.aload_n 0, 1) := by decide +kernel
theorem dd_Mo_receive_137 : decode bm_Mo_receive 137 = .ok (.iload_n 1, 1) := by decide +kernel
theorem dd_Mo_receive_138 : decode bm_Mo_receive 138 = .ok (.iload 4, 2) := by decide +kernel
theorem dd_Mo_receive_140 : decode bm_Mo_receive 140 = .ok (.sipush 12288, 3) := by decide +kernel
theorem dd_Mo_receive_143 : decode bm_Mo_receive 143 = .ok (.bipush 64, 2) := by decide +kernel
theorem dd_Mo_receive_145 : decode bm_Mo_receive 145 = .ok (.iload_n 2, 1) := by decide +kernel
theorem dd_Mo_receive_146 : decode bm_Mo_receive 146 = .ok (.imul, 1) := by decide +kernel
theorem dd_Mo_receive_147 : decode bm_Mo_receive 147 = .ok (.iadd, 1) := by decide +kernel
theorem dd_Mo_receive_148 : decode bm_Mo_receive 148 = .ok (.iload_n 3, 1) := by decide +kernel
theorem dd_Mo_receive_149 : decode bm_Mo_receive 149 = .ok (.iadd, 1) := by decide +kernel
theorem dd_Mo_receive_150 : decode bm_Mo_receive 150 = .ok (.iconst 0, 1) := by decide +kernel
theorem dd_Mo_receive_151 : decode bm_Mo_receive 151 = .ok (.aload_n 0, 1) := by decide +kernel
theorem dd_Mo_receive_152 : decode bm_Mo_receive 152 = .ok (.iload 7, 2) := by decide +kernel
theorem dd_Mo_receive_154 : decode bm_Mo_receive 154 = .ok (.iload 8, 2) := by decide +kernel
theorem dd_Mo_receive_156 : decode bm_Mo_receive 156 = .ok (.invokevirtual 103, 3) := by decide +kernel
theorem dd_Mo_receive_159 : decode bm_Mo_receive 159 = .ok (.invokevirtual 128, 3) := by decide +kernel
theorem dd_Mo_receive_162 : decode bm_Mo_receive 162 = .ok (.istore 9, 2) := by decide +kernel
theorem dd_Mo_receive_164 : decode bm_Mo_receive 164 = .ok (.iload 9, 2) := by decide +kernel
theorem dd_Mo_receive_166 : decode bm_Mo_receive 166 = .ok (.ifCond .eq 6, 3) := by decide +kernel
theorem dd_Mo_receive_169 : decode bm_Mo_receive 169 = .ok (.iload 9, 2) := by decide +kernel
theorem dd_Mo_receive_171 : decode bm_Mo_receive 171 = .ok (.ireturn, 1) := by decide +kernel
theorem dd_Mo_receive_172 : decode bm_Mo_receive 172 = .ok (.aload_n 0, 1) := by decide +kernel
theorem dd_Mo_receive_173 : decode bm_Mo_receive 173 = .ok (.getfield 62, 3) := by decide +kernel
theorem dd_Mo_receive_176 : decode bm_Mo_receive 176 = .ok (.iload 7, 2) := by decide +kernel
theorem dd_Mo_receive_178 : decode bm_Mo_receive 178 = .ok (.aload_n 0, 1) := by decide +kernel
theorem dd_Mo_receive_179 : decode bm_Mo_receive 179 = .ok (.iload_n 1, 1) := by decide +kernel
theorem dd_Mo_receive_180 : decode bm_Mo_receive 180 = .ok (.iload_n 2, 1) := by decide +kernel
theorem dd_Mo_receive_181 : decode bm_Mo_receive 181 = .ok (.iload 7, 2) := by decide +kernel
theorem dd_Mo_receive_183 : decode bm_Mo_receive 183 = .ok (.iload 8, 2) := by decide +kernel
theorem dd_Mo_receive_185 : decode bm_Mo_receive 185 = .ok (.invokevirtual 136, 3) := by decide +kernel
theorem dd_Mo_receive_188 : decode bm_Mo_receive 188 = .ok (.ifCond .eq 7, 3) := by decide +kernel
theorem dd_Mo_receive_191 : decode bm_Mo_receive 191 = .ok (.iconst 1, 1) := by decide +kernel
theorem dd_Mo_receive_192 : decode bm_Mo_receive 192 = .ok (.goto 4, 3) := by decide +kernel
theorem dd_Mo_receive_195 : decode bm_Mo_receive 195 = .ok (.iconst 2, 1) := by decide +kernel
theorem dd_Mo_receive_196 : decode bm_Mo_receive 196 = .ok (.iastore, 1) := by decide +kernel
theorem dd_Mo_receive_197 : decode bm_Mo_receive 197 = .ok (.aload_n 0, 1) := by decide +kernel
theorem dd_Mo_receive_198 : decode bm_Mo_receive 198 = .ok (.getfield 32, 3) := by decide +kernel
theorem dd_Mo_receive_201 : decode bm_Mo_receive 201 = .ok (.iload 6, 2) := by decide +kernel
theorem dd_Mo_receive_203 : decode bm_Mo_receive 203 = .ok (.baload, 1) := by decide +kernel
theorem dd_Mo_receive_204 : decode bm_Mo_receive 204 = .ok (.ifCond .eq 13, 3) := by decide +kernel
theorem dd_Mo_receive_207 : decode bm_Mo_receive 207 = .ok (.aload_n 0, 1) := by decide +kernel
theorem dd_Mo_receive_208 : decode bm_Mo_receive 208 = .ok (.getfield 38, 3) := by decide +kernel
theorem dd_Mo_receive_211 : decode bm_Mo_receive 211 = .ok (.iload 6, 2) := by decide +kernel
theorem dd_Mo_receive_213 : decode bm_Mo_receive 213 = .ok (.iload_n 3, 1) := by decide +kernel
theorem dd_Mo_receive_214 : decode bm_Mo_receive 214 = .ok (.iconst 1, 1) := by decide +kernel
theorem dd_Mo_receive_215 : decode bm_Mo_receive 215 = .ok (.iadd, 1) := by decide +kernel
theorem dd_Mo_receive_216 : decode bm_Mo_receive 216 = .ok (.iastore, 1) := by decide +kernel
theorem dd_Mo_receive_217 : decode bm_Mo_receive 217 = .ok (.aload_n 0, 1) := by decide +kernel
theorem dd_Mo_receive_218 : decode bm_Mo_receive 218 = .ok (.getfield 62, 3) := by decide +kernel
theorem dd_Mo_receive_221 : decode bm_Mo_receive 221 = .ok (.iload 7, 2) := by decide +kernel
theorem dd_Mo_receive_223 : decode bm_Mo_receive 223 = .ok (.iaload, 1) := by decide +kernel
theorem dd_Mo_receive_224 : decode bm_Mo_receive 224 = .ok (.ireturn, 1) := by decide +kernel
theorem dd_Mo_refund_0 : decode bm_Mo_refund 0 = .ok (.aload_n 0, 1) := by decide +kernel
theorem dd_Mo_refund_1 : decode bm_Mo_refund 1 = .ok (.getfield 65, 3) := by decide +kernel
theorem dd_Mo_refund_4 : decode bm_Mo_refund 4 = .ok (.bipush 24, 2) := by decide +kernel
theorem dd_Mo_refund_6 : decode bm_Mo_refund 6 = .ok (.iload_n 1, 1) := by decide +kernel
theorem dd_Mo_refund_7 : decode bm_Mo_refund 7 = .ok (.imul, 1) := by decide +kernel
theorem dd_Mo_refund_8 : decode bm_Mo_refund 8 = .ok (.bipush 6, 2) := by decide +kernel
theorem dd_Mo_refund_10 : decode bm_Mo_refund 10 = .ok (.aload_n 0, 1) := by decide +kernel
theorem dd_Mo_refund_11 : decode bm_Mo_refund 11 = .ok (.getfield 50, 3) := by decide +kernel
theorem dd_Mo_refund_14 : decode bm_Mo_refund 14 = .ok (.iload_n 3, 1) := by decide +kernel
theorem dd_Mo_refund_15 : decode bm_Mo_refund 15 = .ok (.iaload, 1) := by decide +kernel
theorem dd_Mo_refund_16 : decode bm_Mo_refund 16 = .ok (.iconst 4, 1) := by decide +kernel
theorem dd_Mo_refund_17 : decode bm_Mo_refund 17 = .ok (.idiv, 1) := by decide +kernel
theorem dd_Mo_refund_18 : decode bm_Mo_refund 18 = .ok (.imul, 1) := by decide +kernel
theorem dd_Mo_refund_19 : decode bm_Mo_refund 19 = .ok (.iadd, 1) := by decide +kernel
theorem dd_Mo_refund_20 : decode bm_Mo_refund 20 = .ok (.aload_n 0, 1) := by decide +kernel
theorem dd_Mo_refund_21 : decode bm_Mo_refund 21 = .ok (.getfield 44, 3) := by decide +kernel
theorem dd_Mo_refund_24 : decode bm_Mo_refund 24 = .ok (.iload_n 3, 1) := by decide +kernel
theorem dd_Mo_refund_25 : decode bm_Mo_refund 25 = .ok (.iaload, 1) := by decide +kernel
theorem dd_Mo_refund_26 : decode bm_Mo_refund 26 = .ok (.iadd, 1) := by decide +kernel
theorem dd_Mo_refund_27 : decode bm_Mo_refund 27 = .ok (.dup2, 1) := by decide +kernel
theorem dd_Mo_refund_28 : decode bm_Mo_refund 28 = .ok (.iaload, 1) := by decide +kernel
theorem dd_Mo_refund_29 : decode bm_Mo_refund 29 = .ok (.aload_n 0, 1) := by decide +kernel
theorem dd_Mo_refund_30 : decode bm_Mo_refund 30 = .ok (.getfield 47, 3) := by decide +kernel
theorem dd_Mo_refund_33 : decode bm_Mo_refund 33 = .ok (.iload_n 3, 1) := by decide +kernel
theorem dd_Mo_refund_34 : decode bm_Mo_refund 34 = .ok (.iaload, 1) := by decide +kernel
theorem dd_Mo_refund_35 : decode bm_Mo_refund 35 = .ok (.iadd, 1) := by decide +kernel
theorem dd_Mo_refund_36 : decode bm_Mo_refund 36 = .ok (.iastore, 1) := by decide +kernel
theorem dd_Mo_refund_37 : decode bm_Mo_refund 37 = .ok (.aload_n 0, 1) := by decide +kernel
theorem dd_Mo_refund_38 : decode bm_Mo_refund 38 = .ok (.getfield 56, 3) := by decide +kernel
theorem dd_Mo_refund_41 : decode bm_Mo_refund 41 = .ok (.iload_n 3, 1) := by decide +kernel
theorem dd_Mo_refund_42 : decode bm_Mo_refund 42 = .ok (.iaload, 1) := by decide +kernel
theorem dd_Mo_refund_43 : decode bm_Mo_refund 43 = .ok (.ifCond .ne 33, 3) := by decide +kernel
theorem dd_Mo_refund_46 : decode bm_Mo_refund 46 = .ok (.aload_n 0, 1) := by decide +kernel
theorem dd_Mo_refund_47 : decode bm_Mo_refund 47 = .ok (.getfield 68, 3) := by decide +kernel
theorem dd_Mo_refund_50 : decode bm_Mo_refund 50 = .ok (.bipush 18, 2) := by decide +kernel
theorem dd_Mo_refund_52 : decode bm_Mo_refund 52 = .ok (.iload_n 1, 1) := by decide +kernel
theorem dd_Mo_refund_53 : decode bm_Mo_refund 53 = .ok (.imul, 1) := by decide +kernel
theorem dd_Mo_refund_54 : decode bm_Mo_refund 54 = .ok (.bipush 6, 2) := by decide +kernel
theorem dd_Mo_refund_56 : decode bm_Mo_refund 56 = .ok (.iload_n 2, 1) := by decide +kernel
theorem dd_Mo_refund_57 : decode bm_Mo_refund 57 = .ok (.imul, 1) := by decide +kernel
theorem dd_Mo_refund_58 : decode bm_Mo_refund 58 = .ok (.iadd, 1) := by decide +kernel
theorem dd_Mo_refund_59 : decode bm_Mo_refund 59 = .ok (.aload_n 0, 1) := by decide +kernel
theorem dd_Mo_refund_60 : decode bm_Mo_refund 60 = .ok (.getfield 44, 3) := by decide +kernel
theorem dd_Mo_refund_63 : decode bm_Mo_refund 63 = .ok (.iload_n 3, 1) := by decide +kernel
theorem dd_Mo_refund_64 : decode bm_Mo_refund 64 = .ok (.iaload, 1) := by decide +kernel
theorem dd_Mo_refund_65 : decode bm_Mo_refund 65 = .ok (.iadd, 1) := by decide +kernel
theorem dd_Mo_refund_66 : decode bm_Mo_refund 66 = .ok (.dup2, 1) := by decide +kernel
theorem dd_Mo_refund_67 : decode bm_Mo_refund 67 = .ok (.iaload, 1) := by decide +kernel
theorem dd_Mo_refund_68 : decode bm_Mo_refund 68 = .ok (.aload_n 0, 1) := by decide +kernel
theorem dd_Mo_refund_69 : decode bm_Mo_refund 69 = .ok (.getfield 47, 3) := by decide +kernel
theorem dd_Mo_refund_72 : decode bm_Mo_refund 72 = .ok (.iload_n 3, 1) := by decide +kernel
theorem dd_Mo_refund_73 : decode bm_Mo_refund 73 = .ok (.iaload, 1) := by decide +kernel
theorem dd_Mo_refund_74 : decode bm_Mo_refund 74 = .ok (.isub, 1) := by decide +kernel
theorem dd_Mo_refund_75 : decode bm_Mo_refund 75 = .ok (.iastore, 1) := by decide +kernel
theorem dd_Mo_refund_76 : decode bm_Mo_refund 76 = .ok (.return_, 1) := by decide +kernel
theorem dd_Mo_acknowledge_0 : decode bm_Mo_acknowledge 0 = .ok (.iload_n 1, 1) := by decide +kernel
theorem dd_Mo_acknowledge_1 : decode bm_Mo_acknowledge 1 = .ok (.iload_n 2, 1) := by decide +kernel
theorem dd_Mo_acknowledge_2 : decode bm_Mo_acknowledge 2 = .ok (.invokestatic 121, 3) := by decide +kernel
theorem dd_Mo_acknowledge_5 : decode bm_Mo_acknowledge 5 = .ok (.ifCond .eq 21, 3) := by decide +kernel
theorem dd_Mo_acknowledge_8 : decode bm_Mo_acknowledge 8 = .ok (.iload_n 3, 1) := by decide +kernel
theorem dd_Mo_acknowledge_9 : decode bm_Mo_acknowledge 9 = .ok (.iconst 1, 1) := by decide +kernel
theorem dd_Mo_acknowledge_10 : decode bm_Mo_acknowledge 10 = .ok (.aload_n 0, 1) := by decide +kernel
theorem dd_Mo_acknowledge_11 : decode bm_Mo_acknowledge 11 = .ok (.getfield 35, 3) := by decide +kernel
theorem dd_Mo_acknowledge_14 : decode bm_Mo_acknowledge 14 = .ok (.iconst 3, 1) := by decide +kernel
theorem dd_Mo_acknowledge_15 : decode bm_Mo_acknowledge 15 = .ok (.iload_n 1, 1) := by decide +kernel
theorem dd_Mo_acknowledge_16 : decode bm_Mo_acknowledge 16 = .ok (.imul, 1) := by decide +kernel
theorem dd_Mo_acknowledge_17 : decode bm_Mo_acknowledge 17 = .ok (.iload_n 2, 1) := by decide +kernel
theorem dd_Mo_acknowledge_18 : decode bm_Mo_acknowledge 18 = .ok (.iadd, 1) := by decide +kernel
theorem dd_Mo_acknowledge_19 : decode bm_Mo_acknowledge 19 = .ok (.iaload, 1) := by decide +kernel
theorem dd_Mo_acknowledge_20 : decode bm_Mo_acknowledge 20 = .ok (.invokestatic 91, 3) := by decide +kernel
theorem dd_Mo_acknowledge_23 : decode bm_Mo_acknowledge 23 = .ok (.ifCond .eq 5, 3) := by decide +kernel
theorem dd_Mo_acknowledge_26 : decode bm_Mo_acknowledge 26 = .ok (.iconst (-1), 1) := by decide +kernel
theorem dd_Mo_acknowledge_27 : decode bm_Mo_acknowledge 27 = .ok (.ireturn, 1) := by decide +kernel
theorem dd_Mo_acknowledge_28 : decode bm_Mo_acknowledge 28 = .ok (.iconst 3, 1) := by decide +kernel
theorem dd_Mo_acknowledge_29 : decode bm_Mo_acknowledge 29 = .ok (.iload_n 1, 1) := by decide +kernel
theorem dd_Mo_acknowledge_30 : decode bm_Mo_acknowledge 30 = .ok (.imul, 1) := by decide +kernel
theorem dd_Mo_acknowledge_31 : decode bm_Mo_acknowledge 31 = .ok (.iload_n 2, 1) := by decide +kernel
theorem dd_Mo_acknowledge_32 : decode bm_Mo_acknowledge 32 = .ok (.iadd, 1) := by decide +kernel
theorem dd_Mo_acknowledge_33 : decode bm_Mo_acknowledge 33 = .ok (.istore 5, 2) := by decide +kernel
theorem dd_Mo_acknowledge_35 : decode bm_Mo_acknowledge 35 = .ok (.bipush 13, 2) := by decide +kernel
theorem dd_Mo_acknowledge_37 : decode bm_Mo_acknowledge 37 = .ok (.iload 5, 2) := by decide +kernel
theorem dd_Mo_acknowledge_39 : decode bm_Mo_acknowledge 39 = .ok (.imul, 1) := by decide +kernel
theorem dd_Mo_acknowledge_40 : decode bm_Mo_acknowledge 40 = .ok (.iload_n 3, 1) := by decide +kernel
theorem dd_Mo_acknowledge_41 : decode bm_Mo_acknowledge 41 = .ok (.iadd, 1) := by decide +kernel
theorem dd_Mo_acknowledge_42 : decode bm_Mo_acknowledge 42 = .ok (.istore 6, 2) := by decide +kernel
theorem dd_Mo_acknowledge_44 : decode bm_Mo_acknowledge 44 = .ok (.aload_n 0, 1) := by decide +kernel
theorem dd_Mo_acknowledge_45 : decode bm_Mo_acknowledge 45 = .ok (.getfield 29, 3) := by decide +kernel
theorem dd_Mo_acknowledge_48 : decode bm_Mo_acknowledge 48 = .ok (.iload 5, 2) := by decide +kernel
theorem dd_Mo_acknowledge_50 : decode bm_Mo_acknowledge 50 = .ok (.iaload, 1) := by decide +kernel
theorem dd_Mo_acknowledge_51 : decode bm_Mo_acknowledge 51 = .ok (.iconst 3, 1) := by decide +kernel
theorem dd_Mo_acknowledge_52 : decode bm_Mo_acknowledge 52 = .ok (.if_icmp .eq 6, 3) := by decide +kernel
theorem dd_Mo_acknowledge_55 : decode bm_Mo_acknowledge 55 = .ok (.bipush (-2), 2) := by decide +kernel
theorem dd_Mo_acknowledge_57 : decode bm_Mo_acknowledge 57 = .ok (.ireturn, 1) := by decide +kernel
theorem dd_Mo_acknowledge_58 : decode bm_Mo_acknowledge 58 = .ok (.aload_n 0, 1) := by decide +kernel
theorem dd_Mo_acknowledge_59 : decode bm_Mo_acknowledge 59 = .ok (.getfield 59, 3) := by decide +kernel
theorem dd_Mo_acknowledge_62 : decode bm_Mo_acknowledge 62 = .ok (.iload 6, 2) := by decide +kernel
theorem dd_Mo_acknowledge_64 : decode bm_Mo_acknowledge 64 = .ok (.iaload, 1) := by decide +kernel
theorem dd_Mo_acknowledge_65 : decode bm_Mo_acknowledge 65 = .ok (.ifCond .ne 24, 3) := by decide +kernel
theorem dd_Mo_acknowledge_68 : decode bm_Mo_acknowledge 68 = .ok (.aload_n 0, 1) := by decide +kernel
theorem dd_Mo_acknowledge_69 : decode bm_Mo_acknowledge 69 = .ok (.getfield 32, 3) := by decide +kernel
theorem dd_Mo_acknowledge_72 : decode bm_Mo_acknowledge 72 = .ok (.iload 5, 2) := by decide +kernel
theorem dd_Mo_acknowledge_74 : decode bm_Mo_acknowledge 74 = .ok (.baload, 1) := by decide +kernel
theorem dd_Mo_acknowledge_75 : decode bm_Mo_acknowledge 75 = .ok (.ifCond .eq 17, 3) := by decide +kernel
theorem dd_Mo_acknowledge_78 : decode bm_Mo_acknowledge 78 = .ok (.iload_n 3, 1) := by decide +kernel
theorem dd_Mo_acknowledge_79 : decode bm_Mo_acknowledge 79 = .ok (.aload_n 0, 1) := by decide +kernel
theorem dd_Mo_acknowledge_80 : decode bm_Mo_acknowledge 80 = .ok (.getfield 41, 3) := by decide +kernel
theorem dd_Mo_acknowledge_83 : decode bm_Mo_acknowledge 83 = .ok (.iload 5, 2) := by decide +kernel
theorem dd_Mo_acknowledge_85 : decode bm_Mo_acknowledge 85 = .ok (.iaload, 1) := by decide +kernel
theorem dd_Mo_acknowledge_86 : decode bm_Mo_acknowledge 86 = .ok (.if_icmp .eq 6, 3) := by decide +kernel
theorem dd_Mo_acknowledge_89 : decode bm_Mo_acknowledge 89 = .ok (.bipush (-8), 2) := by decide +kernel
theorem dd_Mo_acknowledge_91 : decode bm_Mo_acknowledge 91 = .ok (.ireturn, 1) := by decide +kernel
theorem dd_Mo_acknowledge_92 : decode bm_Mo_acknowledge 92 = .ok (.aload_n 0, 1) := by decide +kernel
theorem dd_Mo_acknowledge_93 : decode bm_Mo_acknowledge 93 = .ok (.getfield 62, 3) := by decide +kernel
theorem dd_Mo_acknowledge_96 : decode bm_Mo_acknowledge 96 = .ok (.iload 6, 2) := by decide +kernel
theorem dd_Mo_acknowledge_98 : decode bm_Mo_acknowledge 98 = .ok (.iaload, 1) := by decide +kernel
theorem dd_Mo_acknowledge_99 : decode bm_Mo_acknowledge 99 = .ok (.ifCond .ne 6, 3) := by decide +kernel
theorem dd_Mo_acknowledge_102 : decode bm_Mo_acknowledge 102 = .ok (.bipush (-5), 2) := by decide +kernel
theorem dd_Mo_acknowledge_104 : decode bm_Mo_acknowledge 104 = .ok (.ireturn, 1) := by decide +kernel
theorem dd_Mo_acknowledge_105 : decode bm_Mo_acknowledge 105 = .ok (.aload_n 0, 1) := by decide +kernel
theorem dd_Mo_acknowledge_106 : decode bm_Mo_acknowledge 106 = .ok (.iload_n 1, 1) := by decide +kernel
theorem dd_Mo_acknowledge_107 : decode bm_Mo_acknowledge 107 = .ok (.iload 4, 2) := by decide +kernel
theorem dd_Mo_acknowledge_109 : decode bm_Mo_acknowledge 109 = .ok (.sipush 20480, 3) := by decide +kernel
theorem dd_Mo_acknowledge_112 : decode bm_Mo_acknowledge 112 = .ok (.bipush 64, 2) := by decide +kernel
theorem dd_Mo_acknowledge_114 : decode bm_Mo_acknowledge 114 = .ok (.iload_n 2, 1) := by decide +kernel
theorem dd_Mo_acknowledge_115 : decode bm_Mo_acknowledge 115 = .ok (.imul, 1) := by decide +kernel
theorem dd_Mo_acknowledge_116 : decode bm_Mo_acknowledge 116 = .ok (.iadd, 1) := by decide +kernel
theorem dd_Mo_acknowledge_117 : decode bm_Mo_acknowledge 117 = .ok (.iload_n 3, 1) := by decide +kernel
theorem dd_Mo_acknowledge_118 : decode bm_Mo_acknowledge 118 = .ok (.iadd, 1) := by decide +kernel
theorem dd_Mo_acknowledge_119 : decode bm_Mo_acknowledge 119 = .ok (.iconst 0, 1) := by decide +kernel
theorem dd_Mo_acknowledge_120 : decode bm_Mo_acknowledge 120 = .ok (.aload_n 0, 1) := by decide +kernel
theorem dd_Mo_acknowledge_121 : decode bm_Mo_acknowledge 121 = .ok (.getfield 62, 3) := by decide +kernel
theorem dd_Mo_acknowledge_124 : decode bm_Mo_acknowledge 124 = .ok (.iload 6, 2) := by decide +kernel
theorem dd_Mo_acknowledge_126 : decode bm_Mo_acknowledge 126 = .ok (.iaload, 1) := by decide +kernel
theorem dd_Mo_acknowledge_127 : decode bm_Mo_acknowledge 127 = .ok (.invokevirtual 128, 3) := by decide +kernel
theorem dd_Mo_acknowledge_130 : decode bm_Mo_acknowledge 130 = .ok (.istore 7, 2) := by decide +kernel
theorem dd_Mo_acknowledge_132 : decode bm_Mo_acknowledge 132 = .ok (.iload 7, 2) := by decide +kernel
theorem dd_Mo_acknowledge_134 : decode bm_Mo_acknowledge 134 = .ok (.ifCond .eq 6, 3) := by decide +kernel
theorem dd_Mo_acknowledge_137 : decode bm_Mo_acknowledge 137 = .ok (.iload 7, 2) := by decide +kernel
theorem dd_Mo_acknowledge_139 : decode bm_Mo_acknowledge 139 = .ok (.ireturn, 1) := by decide +kernel
theorem dd_Mo_acknowledge_140 : decode bm_Mo_acknowledge 140 = .ok (.aload_n 0, 1) := by decide +kernel
theorem dd_Mo_acknowledge_141 : decode bm_Mo_acknowledge 141 = .ok (.getfield 59, 3) := by decide +kernel
theorem dd_Mo_acknowledge_144 : decode bm_Mo_acknowledge 144 = .ok (.iload 6, 2) := by decide +kernel
theorem dd_Mo_acknowledge_146 : decode bm_Mo_acknowledge 146 = .ok (.aload_n 0, 1) := by decide +kernel
theorem dd_Mo_acknowledge_147 : decode bm_Mo_acknowledge 147 = .ok (.getfield 62, 3) := by decide +kernel
theorem dd_Mo_acknowledge_150 : decode bm_Mo_acknowledge 150 = .ok (.iload 6, 2) := by decide +kernel
theorem dd_Mo_acknowledge_152 : decode bm_Mo_acknowledge 152 = .ok (.iaload, 1) := by decide +kernel
theorem dd_Mo_acknowledge_153 : decode bm_Mo_acknowledge 153 = .ok (.iastore, 1) := by decide +kernel
theorem dd_Mo_acknowledge_154 : decode bm_Mo_acknowledge 154 = .ok (.aload_n 0, 1) := by decide +kernel
theorem dd_Mo_acknowledge_155 : decode bm_Mo_acknowledge 155 = .ok (.getfield 62, 3) := by decide +kernel
theorem dd_Mo_acknowledge_158 : decode bm_Mo_acknowledge 158 = .ok (.iload 6, 2) := by decide +kernel
theorem dd_Mo_acknowledge_160 : decode bm_Mo_acknowledge 160 = .ok (.iaload, 1) := by decide +kernel
theorem dd_Mo_acknowledge_161 : decode bm_Mo_acknowledge 161 = .ok (.iconst 2, 1) := by decide +kernel
theorem dd_Mo_acknowledge_162 : decode bm_Mo_acknowledge 162 = .ok (.if_icmp .ne 11, 3) := by decide +kernel
theorem dd_Mo_acknowledge_165 : decode bm_Mo_acknowledge 165 = .ok (.aload_n 0, 1) := by decide +kernel
theorem dd_Mo_acknowledge_166 : decode bm_Mo_acknowledge 166 = .ok (.iload_n 1, 1) := by decide +kernel
theorem dd_Mo_acknowledge_167 : decode bm_Mo_acknowledge 167 = .ok (.iload_n 2, 1) := by decide +kernel
theorem dd_Mo_acknowledge_168 : decode bm_Mo_acknowledge 168 = .ok (.iload 6, 2) := by decide +kernel
theorem dd_Mo_acknowledge_170 : decode bm_Mo_acknowledge 170 = .ok (.invokevirtual 140, 3) := by decide +kernel
theorem dd_Mo_acknowledge_173 : decode bm_Mo_acknowledge 173 = .ok (.aload_n 0, 1) := by decide +kernel
theorem dd_Mo_acknowledge_174 : decode bm_Mo_acknowledge 174 = .ok (.getfield 32, 3) := by decide +kernel
theorem dd_Mo_acknowledge_177 : decode bm_Mo_acknowledge 177 = .ok (.iload 5, 2) := by decide +kernel
theorem dd_Mo_acknowledge_179 : decode bm_Mo_acknowledge 179 = .ok (.baload, 1) := by decide +kernel
theorem dd_Mo_acknowledge_180 : decode bm_Mo_acknowledge 180 = .ok (.ifCond .eq 13, 3) := by decide +kernel
theorem dd_Mo_acknowledge_183 : decode bm_Mo_acknowledge 183 = .ok (.aload_n 0, 1) := by decide +kernel
theorem dd_Mo_acknowledge_184 : decode bm_Mo_acknowledge 184 = .ok (.getfield 41, 3) := by decide +kernel
theorem dd_Mo_acknowledge_187 : decode bm_Mo_acknowledge 187 = .ok (.iload 5, 2) := by decide +kernel
theorem dd_Mo_acknowledge_189 : decode bm_Mo_acknowledge 189 = .ok (.iload_n 3, 1) := by decide +kernel
theorem dd_Mo_acknowledge_190 : decode bm_Mo_acknowledge 190 = .ok (.iconst 1, 1) := by decide +kernel
theorem dd_Mo_acknowledge_191 : decode bm_Mo_acknowledge 191 = .ok (.iadd, 1) := by decide +kernel
theorem dd_Mo_acknowledge_192 : decode bm_Mo_acknowledge 192 = .ok (.iastore, 1) := by decide +kernel
theorem dd_Mo_acknowledge_193 : decode bm_Mo_acknowledge 193 = .ok (.aload_n 0, 1) := by decide +kernel
theorem dd_Mo_acknowledge_194 : decode bm_Mo_acknowledge 194 = .ok (.getfield 62, 3) := by decide +kernel
theorem dd_Mo_acknowledge_197 : decode bm_Mo_acknowledge 197 = .ok (.iload 6, 2) := by decide +kernel
theorem dd_Mo_acknowledge_199 : decode bm_Mo_acknowledge 199 = .ok (.iaload, 1) := by decide +kernel
theorem dd_Mo_acknowledge_200 : decode bm_Mo_acknowledge 200 = .ok (.ireturn, 1) := by decide +kernel
end
section
theorem dd_Mo_notReceived_0 : decode bm_Mo_notReceived 0 = .ok (.aload_n 0, 1) := by decide +kernel
theorem dd_Mo_notReceived_1 : decode bm_Mo_notReceived 1 = .ok (.getfield 32, 3) := by decide +kernel
theorem dd_Mo_notReceived_4 : decode bm_Mo_notReceived 4 = .ok (.iconst 3, 1) := by decide +kernel
theorem dd_Mo_notReceived_5 : decode bm_Mo_notReceived 5 = .ok (.iload_n 1, 1) := by decide +kernel
theorem dd_Mo_notReceived_6 : decode bm_Mo_notReceived 6 = .ok (.imul, 1) := by decide +kernel
theorem dd_Mo_notReceived_7 : decode bm_Mo_notReceived 7 = .ok (.iload_n 2, 1) := by decide +kernel
theorem dd_Mo_notReceived_8 : decode bm_Mo_notReceived 8 = .ok (.iadd, 1) := by decide +kernel
theorem dd_Mo_notReceived_9 : decode bm_Mo_notReceived 9 = .ok (.baload, 1) := by decide +kernel
theorem dd_Mo_notReceived_10 : decode bm_Mo_notReceived 10 = .ok (.ifCond .ne 23, 3) := by decide +kernel
theorem dd_Mo_notReceived_13 : decode bm_Mo_notReceived 13 = .ok (.aload_n 0, 1) := by decide +kernel
theorem dd_Mo_notReceived_14 : decode bm_Mo_notReceived 14 = .ok (.iload_n 1, 1) := by decide +kernel
theorem dd_Mo_notReceived_15 : decode bm_Mo_notReceived 15 = .ok (.iload 4, 2) := by decide +kernel
theorem dd_Mo_notReceived_17 : decode bm_Mo_notReceived 17 = .ok (.sipush 16384, 3) := by decide +kernel
theorem dd_Mo_notReceived_20 : decode bm_Mo_notReceived 20 = .ok (.bipush 64, 2) := by decide +kernel
theorem dd_Mo_notReceived_22 : decode bm_Mo_notReceived 22 = .ok (.iload_n 2, 1) := by decide +kernel
theorem dd_Mo_notReceived_23 : decode bm_Mo_notReceived 23 = .ok (.imul, 1) := by decide +kernel
theorem dd_Mo_notReceived_24 : decode bm_Mo_notReceived 24 = .ok (.iadd, 1) := by decide +kernel
theorem dd_Mo_notReceived_25 : decode bm_Mo_notReceived 25 = .ok (.iload_n 3, 1) := by decide +kernel
theorem dd_Mo_notReceived_26 : decode bm_Mo_notReceived 26 = .ok (.iadd, 1) := by decide +kernel
theorem dd_Mo_notReceived_27 : decode bm_Mo_notReceived 27 = .ok (.iconst 1, 1) := by decide +kernel
theorem dd_Mo_notReceived_28 : decode bm_Mo_notReceived 28 = .ok (.iconst 0, 1) := by decide +kernel
theorem dd_Mo_notReceived_29 : decode bm_Mo_notReceived 29 = .ok (.invokevirtual 128, 3) := by decide +kernel
theorem dd_Mo_notReceived_32 : decode bm_Mo_notReceived 32 = .ok (.ireturn, 1) := by decide +kernel
theorem dd_Mo_notReceived_33 : decode bm_Mo_notReceived 33 = .ok (.aload_n 0, 1) := by decide +kernel
theorem dd_Mo_notReceived_34 : decode bm_Mo_notReceived 34 = .ok (.getfield 38, 3) := by decide +kernel
theorem dd_Mo_notReceived_37 : decode bm_Mo_notReceived 37 = .ok (.iconst 3, 1) := by decide +kernel
theorem dd_Mo_notReceived_38 : decode bm_Mo_notReceived 38 = .ok (.iconst 1, 1) := by decide +kernel
theorem dd_Mo_notReceived_39 : decode bm_Mo_notReceived 39 = .ok (.iload_n 1, 1) := by decide +kernel
theorem dd_Mo_notReceived_40 : decode bm_Mo_notReceived 40 = .ok (.isub, 1) := by decide +kernel
theorem dd_Mo_notReceived_41 : decode bm_Mo_notReceived 41 = .ok (.imul, 1) := by decide +kernel
theorem dd_Mo_notReceived_42 : decode bm_Mo_notReceived 42 = .ok (.iload_n 2, 1) := by decide +kernel
theorem dd_Mo_notReceived_43 : decode bm_Mo_notReceived 43 = .ok (.iadd, 1) := by decide +kernel
theorem dd_Mo_notReceived_44 : decode bm_Mo_notReceived 44 = .ok (.iaload, 1) := by decide +kernel
theorem dd_Mo_notReceived_45 : decode bm_Mo_notReceived 45 = .ok (.istore 5, 2) := by decide +kernel
theorem dd_Mo_notReceived_47 : decode bm_Mo_notReceived 47 = .ok (.iload 5, 2) := by decide +kernel
theorem dd_Mo_notReceived_49 : decode bm_Mo_notReceived 49 = .ok (.iload_n 3, 1) := by decide +kernel
theorem dd_Mo_notReceived_50 : decode bm_Mo_notReceived 50 = .ok (.if_icmp .le 8, 3) := by decide +kernel
theorem dd_Mo_notReceived_53 : decode bm_Mo_notReceived 53 = .ok (.bipush (-5), 2) := by decide +kernel
theorem dd_Mo_notReceived_55 : decode bm_Mo_notReceived 55 = .ok (.goto 18, 3) := by decide +kernel
theorem dd_Mo_notReceived_58 : decode bm_Mo_notReceived 58 = .ok (.aload_n 0, 1) := by decide +kernel
theorem dd_Mo_notReceived_59 : decode bm_Mo_notReceived 59 = .ok (.iload_n 1, 1) := by decide +kernel
theorem dd_Mo_notReceived_60 : decode bm_Mo_notReceived 60 = .ok (.iload 4, 2) := by decide +kernel
theorem dd_Mo_notReceived_62 : decode bm_Mo_notReceived 62 = .ok (.sipush 8192, 3) := by decide +kernel
theorem dd_Mo_notReceived_65 : decode bm_Mo_notReceived 65 = .ok (.iload_n 2, 1) := by decide +kernel
theorem dd_Mo_notReceived_66 : decode bm_Mo_notReceived 66 = .ok (.iadd, 1) := by decide +kernel
theorem dd_Mo_notReceived_67 : decode bm_Mo_notReceived 67 = .ok (.iconst 0, 1) := by decide +kernel
theorem dd_Mo_notReceived_68 : decode bm_Mo_notReceived 68 = .ok (.iload 5, 2) := by decide +kernel
theorem dd_Mo_notReceived_70 : decode bm_Mo_notReceived 70 = .ok (.invokevirtual 128, 3) := by decide +kernel
theorem dd_Mo_notReceived_73 : decode bm_Mo_notReceived 73 = .ok (.ireturn, 1) := by decide +kernel
theorem dd_Mo_timeout_0 : decode bm_Mo_timeout 0 = .ok (.iload_n 1, 1) := by decide +kernel
theorem dd_Mo_timeout_1 : decode bm_Mo_timeout 1 = .ok (.iload_n 2, 1) := by decide +kernel
theorem dd_Mo_timeout_2 : decode bm_Mo_timeout 2 = .ok (.invokestatic 121, 3) := by decide +kernel
theorem dd_Mo_timeout_5 : decode bm_Mo_timeout 5 = .ok (.ifCond .eq 21, 3) := by decide +kernel
theorem dd_Mo_timeout_8 : decode bm_Mo_timeout 8 = .ok (.iload_n 3, 1) := by decide +kernel
theorem dd_Mo_timeout_9 : decode bm_Mo_timeout 9 = .ok (.iconst 1, 1) := by decide +kernel
theorem dd_Mo_timeout_10 : decode bm_Mo_timeout 10 = .ok (.aload_n 0, 1) := by decide +kernel
theorem dd_Mo_timeout_11 : decode bm_Mo_timeout 11 = .ok (.getfield 35, 3) := by decide +kernel
theorem dd_Mo_timeout_14 : decode bm_Mo_timeout 14 = .ok (.iconst 3, 1) := by decide +kernel
theorem dd_Mo_timeout_15 : decode bm_Mo_timeout 15 = .ok (.iload_n 1, 1) := by decide +kernel
theorem dd_Mo_timeout_16 : decode bm_Mo_timeout 16 = .ok (.imul, 1) := by decide +kernel
theorem dd_Mo_timeout_17 : decode bm_Mo_timeout 17 = .ok (.iload_n 2, 1) := by decide +kernel
theorem dd_Mo_timeout_18 : decode bm_Mo_timeout 18 = .ok (.iadd, 1) := by decide +kernel
theorem dd_Mo_timeout_19 : decode bm_Mo_timeout 19 = .ok (.iaload, 1) := by decide +kernel
theorem dd_Mo_timeout_20 : decode bm_Mo_timeout 20 = .ok (.invokestatic 91, 3) := by decide +kernel
theorem dd_Mo_timeout_23 : decode bm_Mo_timeout 23 = .ok (.ifCond .eq 5, 3) := by decide +kernel
theorem dd_Mo_timeout_26 : decode bm_Mo_timeout 26 = .ok (.iconst (-1), 1) := by decide +kernel
theorem dd_Mo_timeout_27 : decode bm_Mo_timeout 27 = .ok (.ireturn, 1) := by decide +kernel
theorem dd_Mo_timeout_28 : decode bm_Mo_timeout 28 = .ok (.iconst 3, 1) := by decide +kernel
theorem dd_Mo_timeout_29 : decode bm_Mo_timeout 29 = .ok (.iload_n 1, 1) := by decide +kernel
theorem dd_Mo_timeout_30 : decode bm_Mo_timeout 30 = .ok (.imul, 1) := by decide +kernel
theorem dd_Mo_timeout_31 : decode bm_Mo_timeout 31 = .ok (.iload_n 2, 1) := by decide +kernel
theorem dd_Mo_timeout_32 : decode bm_Mo_timeout 32 = .ok (.iadd, 1) := by decide +kernel
theorem dd_Mo_timeout_33 : decode bm_Mo_timeout 33 = .ok (.istore 6, 2) := by decide +kernel
theorem dd_Mo_timeout_35 : decode bm_Mo_timeout 35 = .ok (.bipush 13, 2) := by decide +kernel
theorem dd_Mo_timeout_37 : decode bm_Mo_timeout 37 = .ok (.iload 6, 2) := by decide +kernel
theorem dd_Mo_timeout_39 : decode bm_Mo_timeout 39 = .ok (.imul, 1) := by decide +kernel
theorem dd_Mo_timeout_40 : decode bm_Mo_timeout 40 = .ok (.iload_n 3, 1) := by decide +kernel
theorem dd_Mo_timeout_41 : decode bm_Mo_timeout 41 = .ok (.iadd, 1) := by decide +kernel
theorem dd_Mo_timeout_42 : decode bm_Mo_timeout 42 = .ok (.istore 7, 2) := by decide +kernel
theorem dd_Mo_timeout_44 : decode bm_Mo_timeout 44 = .ok (.aload_n 0, 1) := by decide +kernel
theorem dd_Mo_timeout_45 : decode bm_Mo_timeout 45 = .ok (.getfield 59, 3) := by decide +kernel
theorem dd_Mo_timeout_48 : decode bm_Mo_timeout 48 = .ok (.iload 7, 2) := by decide +kernel
theorem dd_Mo_timeout_50 : decode bm_Mo_timeout 50 = .ok (.iaload, 1) := by decide +kernel
theorem dd_Mo_timeout_51 : decode bm_Mo_timeout 51 = .ok (.ifCond .eq 6, 3) := by decide +kernel
theorem dd_Mo_timeout_54 : decode bm_Mo_timeout 54 = .ok (.bipush (-8), 2) := by decide +kernel
theorem dd_Mo_timeout_56 : decode bm_Mo_timeout 56 = .ok (.ireturn, 1) := by decide +kernel
theorem dd_Mo_timeout_57 : decode bm_Mo_timeout 57 = .ok (.iload 5, 2) := by decide +kernel
theorem dd_Mo_timeout_59 : decode bm_Mo_timeout 59 = .ok (.ifCond .ne 18, 3) := by decide +kernel
theorem dd_Mo_timeout_62 : decode bm_Mo_timeout 62 = .ok (.iload 4, 2) := by decide +kernel
theorem dd_Mo_timeout_64 : decode bm_Mo_timeout 64 = .ok (.aload_n 0, 1) := by decide +kernel
theorem dd_Mo_timeout_65 : decode bm_Mo_timeout 65 = .ok (.getfield 53, 3) := by decide +kernel
theorem dd_Mo_timeout_68 : decode bm_Mo_timeout 68 = .ok (.iload 7, 2) := by decide +kernel
theorem dd_Mo_timeout_70 : decode bm_Mo_timeout 70 = .ok (.iaload, 1) := by decide +kernel
theorem dd_Mo_timeout_71 : decode bm_Mo_timeout 71 = .ok (.if_icmp .ge 6, 3) := by decide +kernel
theorem dd_Mo_timeout_74 : decode bm_Mo_timeout 74 = .ok (.bipush (-9), 2) := by decide +kernel
theorem dd_Mo_timeout_76 : decode bm_Mo_timeout 76 = .ok (.ireturn, 1) := by decide +kernel
theorem dd_Mo_timeout_77 : decode bm_Mo_timeout 77 = .ok (.iload 5, 2) := by decide +kernel
theorem dd_Mo_timeout_79 : decode bm_Mo_timeout 79 = .ok (.ifCond .eq 32, 3) := by decide +kernel
theorem dd_Mo_timeout_82 : decode bm_Mo_timeout 82 = .ok (.aload_n 0, 1) := by decide +kernel
theorem dd_Mo_timeout_83 : decode bm_Mo_timeout 83 = .ok (.iload_n 1, 1) := by decide +kernel
theorem dd_Mo_timeout_84 : decode bm_Mo_timeout 84 = .ok (.iload 4, 2) := by decide +kernel
theorem dd_Mo_timeout_86 : decode bm_Mo_timeout 86 = .ok (.sipush 4096, 3) := by decide +kernel
theorem dd_Mo_timeout_89 : decode bm_Mo_timeout 89 = .ok (.iload_n 2, 1) := by decide +kernel
theorem dd_Mo_timeout_90 : decode bm_Mo_timeout 90 = .ok (.iadd, 1) := by decide +kernel
theorem dd_Mo_timeout_91 : decode bm_Mo_timeout 91 = .ok (.iconst 0, 1) := by decide +kernel
theorem dd_Mo_timeout_92 : decode bm_Mo_timeout 92 = .ok (.bipush 8, 2) := by decide +kernel
theorem dd_Mo_timeout_94 : decode bm_Mo_timeout 94 = .ok (.aload_n 0, 1) := by decide +kernel
theorem dd_Mo_timeout_95 : decode bm_Mo_timeout 95 = .ok (.getfield 32, 3) := by decide +kernel
theorem dd_Mo_timeout_98 : decode bm_Mo_timeout 98 = .ok (.iload 6, 2) := by decide +kernel
theorem dd_Mo_timeout_100 : decode bm_Mo_timeout 100 = .ok (.baload, 1) := by decide +kernel
theorem dd_Mo_timeout_101 : decode bm_Mo_timeout 101 = .ok (.invokestatic 124, 3) := by decide +kernel
theorem dd_Mo_timeout_104 : decode bm_Mo_timeout 104 = .ok (.iadd, 1) := by decide +kernel
theorem dd_Mo_timeout_105 : decode bm_Mo_timeout 105 = .ok (.invokevirtual 128, 3) := by decide +kernel
theorem dd_Mo_timeout_108 : decode bm_Mo_timeout 108 = .ok (.goto 4, 3) := by decide +kernel
theorem dd_Mo_timeout_111 : decode bm_Mo_timeout 111 = .ok (.iconst 0, 1) := by decide +kernel
theorem dd_Mo_timeout_112 : decode bm_Mo_timeout 112 = .ok (.istore 8, 2) := by decide +kernel
theorem dd_Mo_timeout_114 : decode bm_Mo_timeout 114 = .ok (.iload 8, 2) := by decide +kernel
theorem dd_Mo_timeout_116 : decode bm_Mo_timeout 116 = .ok (.ifCond .ne 15, 3) := by decide +kernel
theorem dd_Mo_timeout_119 : decode bm_Mo_timeout 119 = .ok (.aload_n 0, 1) := by decide +kernel
theorem dd_Mo_timeout_120 : decode bm_Mo_timeout 120 = .ok (.iload_n 1, 1) := by decide +kernel
theorem dd_Mo_timeout_121 : decode bm_Mo_timeout 121 = .ok (.iload_n 2, 1) := by decide +kernel
theorem dd_Mo_timeout_122 : decode bm_Mo_timeout 122 = .ok (.iload_n 3, 1) := by decide +kernel
theorem dd_Mo_timeout_123 : decode bm_Mo_timeout 123 = .ok (.iload 4, 2) := by decide +kernel
theorem dd_Mo_timeout_125 : decode bm_Mo_timeout 125 = .ok (.invokevirtual 143, 3) := by decide +kernel
theorem dd_Mo_timeout_128 : decode bm_Mo_timeout 128 = .ok (.goto 5, 3) := by decide +kernel
theorem dd_Mo_timeout_131 : decode bm_Mo_timeout 131 = .ok (.iload 8, 2) := by decide +kernel
theorem dd_Mo_timeout_133 : decode bm_Mo_timeout 133 = .ok (.istore 8, 2) := by decide +kernel
theorem dd_Mo_timeout_135 : decode bm_Mo_timeout 135 = .ok (.iload 8, 2) := by decide +kernel
theorem dd_Mo_timeout_137 : decode bm_Mo_timeout 137 = .ok (.ifCond .eq 6, 3) := by decide +kernel
theorem dd_Mo_timeout_140 : decode bm_Mo_timeout 140 = .ok (.iload 8, 2) := by decide +kernel
theorem dd_Mo_timeout_142 : decode bm_Mo_timeout 142 = .ok (.ireturn, 1) := by decide +kernel
theorem dd_Mo_timeout_143 : decode bm_Mo_timeout 143 = .ok (.aload_n 0, 1) := by decide +kernel
theorem dd_Mo_timeout_144 : decode bm_Mo_timeout 144 = .ok (.getfield 59, 3) := by decide +kernel
theorem dd_Mo_timeout_147 : decode bm_Mo_timeout 147 = .ok (.iload 7, 2) := by decide +kernel
theorem dd_Mo_timeout_149 : decode bm_Mo_timeout 149 = .ok (.iconst 3, 1) := by decide +kernel
theorem dd_Mo_timeout_150 : decode bm_Mo_timeout 150 = .ok (.iastore, 1) := by decide +kernel
theorem dd_Mo_timeout_151 : decode bm_Mo_timeout 151 = .ok (.aload_n 0, 1) := by decide +kernel
theorem dd_Mo_timeout_152 : decode bm_Mo_timeout 152 = .ok (.iload_n 1, 1) := by decide +kernel
theorem dd_Mo_timeout_153 : decode bm_Mo_timeout 153 = .ok (.iload_n 2, 1) := by decide +kernel
theorem dd_Mo_timeout_154 : decode bm_Mo_timeout 154 = .ok (.iload 7, 2) := by decide +kernel
theorem dd_Mo_timeout_156 : decode bm_Mo_timeout 156 = .ok (.invokevirtual 140, 3) := by decide +kernel
theorem dd_Mo_timeout_159 : decode bm_Mo_timeout 159 = .ok (.aload_n 0, 1) := by decide +kernel
theorem dd_Mo_timeout_160 : decode bm_Mo_timeout 160 = .ok (.getfield 32, 3) := by decide +kernel
theorem dd_Mo_timeout_163 : decode bm_Mo_timeout 163 = .ok (.iload 6, 2) := by decide +kernel
theorem dd_Mo_timeout_165 : decode bm_Mo_timeout 165 = .ok (.baload, 1) := by decide +kernel
theorem dd_Mo_timeout_166 : decode bm_Mo_timeout 166 = .ok (.ifCond .eq 11, 3) := by decide +kernel
theorem dd_Mo_timeout_169 : decode bm_Mo_timeout 169 = .ok (.aload_n 0, 1) := by decide +kernel
theorem dd_Mo_timeout_170 : decode bm_Mo_timeout 170 = .ok (.getfield 29, 3) := by decide +kernel
theorem dd_Mo_timeout_173 : decode bm_Mo_timeout 173 = .ok (.iload 6, 2) := by decide +kernel
theorem dd_Mo_timeout_175 : decode bm_Mo_timeout 175 = .ok (.iconst 4, 1) := by decide +kernel
theorem dd_Mo_timeout_176 : decode bm_Mo_timeout 176 = .ok (.iastore, 1) := by decide +kernel
theorem dd_Mo_timeout_177 : decode bm_Mo_timeout 177 = .ok (.iconst 0, 1) := by decide +kernel
theorem dd_Mo_timeout_178 : decode bm_Mo_timeout 178 = .ok (.ireturn, 1) := by decide +kernel
theorem dd_Mo_relay_0 : decode bm_Mo_relay 0 = .ok (.iconst 0, 1) := by decide +kernel
theorem dd_Mo_relay_1 : decode bm_Mo_relay 1 = .ok (.istore 4, 2) := by decide +kernel
theorem dd_Mo_relay_3 : decode bm_Mo_relay 3 = .ok (.iconst 0, 1) := by decide +kernel
theorem dd_Mo_relay_4 : decode bm_Mo_relay 4 = .ok (.istore 5, 2) := by decide +kernel
theorem dd_Mo_relay_6 : decode bm_Mo_relay 6 = .ok (.iload 5, 2) := by decide +kernel
theorem dd_Mo_relay_8 : decode bm_Mo_relay 8 = .ok (.iconst 3, 1) := by decide +kernel
theorem dd_Mo_relay_9 : decode bm_Mo_relay 9 = .ok (.if_icmp .ge 113, 3) := by decide +kernel
theorem dd_Mo_relay_12 : decode bm_Mo_relay 12 = .ok (.aload_n 0, 1) := by decide +kernel
theorem dd_Mo_relay_13 : decode bm_Mo_relay 13 = .ok (.getfield 35, 3) := by decide +kernel
theorem dd_Mo_relay_16 : decode bm_Mo_relay 16 = .ok (.iconst 3, 1) := by decide +kernel
theorem dd_Mo_relay_17 : decode bm_Mo_relay 17 = .ok (.iload_n 3, 1) := by decide +kernel
theorem dd_Mo_relay_18 : decode bm_Mo_relay 18 = .ok (.ifCond .ne 9, 3) := by decide +kernel
theorem dd_Mo_relay_21 : decode bm_Mo_relay 21 = .ok (.iconst 1, 1) := by decide +kernel
theorem dd_Mo_relay_22 : decode bm_Mo_relay 22 = .ok (.iload_n 1, 1) := by decide +kernel
theorem dd_Mo_relay_23 : decode bm_Mo_relay 23 = .ok (.isub, 1) := by decide +kernel
theorem dd_Mo_relay_24 : decode bm_Mo_relay 24 = .ok (.goto 4, 3) := by decide +kernel
theorem dd_Mo_relay_27 : decode bm_Mo_relay 27 = .ok (.iload_n 1, 1) := by decide +kernel
theorem dd_Mo_relay_28 : decode bm_Mo_relay 28 = .ok (.imul, 1) := by decide +kernel
theorem dd_Mo_relay_29 : decode bm_Mo_relay 29 = .ok (.iload 5, 2) := by decide +kernel
theorem dd_Mo_relay_31 : decode bm_Mo_relay 31 = .ok (.iadd, 1) := by decide +kernel
theorem dd_Mo_relay_32 : decode bm_Mo_relay 32 = .ok (.iaload, 1) := by decide +kernel
theorem dd_Mo_relay_33 : decode bm_Mo_relay 33 = .ok (.istore 6, 2) := by decide +kernel
theorem dd_Mo_relay_35 : decode bm_Mo_relay 35 = .ok (.iconst 1, 1) := by decide +kernel
theorem dd_Mo_relay_36 : decode bm_Mo_relay 36 = .ok (.istore 7, 2) := by decide +kernel
theorem dd_Mo_relay_38 : decode bm_Mo_relay 38 = .ok (.iload 7, 2) := by decide +kernel
theorem dd_Mo_relay_40 : decode bm_Mo_relay 40 = .ok (.iload 6, 2) := by decide +kernel
theorem dd_Mo_relay_42 : decode bm_Mo_relay 42 = .ok (.if_icmp .gt 74, 3) := by decide +kernel
theorem dd_Mo_relay_45 : decode bm_Mo_relay 45 = .ok (.iload_n 3, 1) := by decide +kernel
theorem dd_Mo_relay_46 : decode bm_Mo_relay 46 = .ok (.ifCond .ne 17, 3) := by decide +kernel
theorem dd_Mo_relay_49 : decode bm_Mo_relay 49 = .ok (.aload_n 0, 1) := by decide +kernel
theorem dd_Mo_relay_50 : decode bm_Mo_relay 50 = .ok (.iload_n 1, 1) := by decide +kernel
theorem dd_Mo_relay_51 : decode bm_Mo_relay 51 = .ok (.iload 5, 2) := by decide +kernel
theorem dd_Mo_relay_53 : decode bm_Mo_relay 53 = .ok (.iload 7, 2) := by decide +kernel
theorem dd_Mo_relay_55 : decode bm_Mo_relay 55 = .ok (.iload_n 2, 1) := by decide +kernel
theorem dd_Mo_relay_56 : decode bm_Mo_relay 56 = .ok (.iconst 0, 1) := by decide +kernel
theorem dd_Mo_relay_57 : decode bm_Mo_relay 57 = .ok (.invokevirtual 147, 3) := by decide +kernel
theorem dd_Mo_relay_60 : decode bm_Mo_relay 60 = .ok (.goto 32, 3) := by decide +kernel
theorem dd_Mo_relay_63 : decode bm_Mo_relay 63 = .ok (.iload_n 3, 1) := by decide +kernel
theorem dd_Mo_relay_64 : decode bm_Mo_relay 64 = .ok (.iconst 1, 1) := by decide +kernel
theorem dd_Mo_relay_65 : decode bm_Mo_relay 65 = .ok (.if_icmp .ne 16, 3) := by decide +kernel
theorem dd_Mo_relay_68 : decode bm_Mo_relay 68 = .ok (.aload_n 0, 1) := by decide +kernel
theorem dd_Mo_relay_69 : decode bm_Mo_relay 69 = .ok (.iload_n 1, 1) := by decide +kernel
theorem dd_Mo_relay_70 : decode bm_Mo_relay 70 = .ok (.iload 5, 2) := by decide +kernel
theorem dd_Mo_relay_72 : decode bm_Mo_relay 72 = .ok (.iload 7, 2) := by decide +kernel
theorem dd_Mo_relay_74 : decode bm_Mo_relay 74 = .ok (.iload_n 2, 1) := by decide +kernel
theorem dd_Mo_relay_75 : decode bm_Mo_relay 75 = .ok (.invokevirtual 151, 3) := by decide +kernel
theorem dd_Mo_relay_78 : decode bm_Mo_relay 78 = .ok (.goto 14, 3) := by decide +kernel
theorem dd_Mo_relay_81 : decode bm_Mo_relay 81 = .ok (.aload_n 0, 1) := by decide +kernel
theorem dd_Mo_relay_82 : decode bm_Mo_relay 82 = .ok (.iload_n 1, 1) := by decide +kernel
theorem dd_Mo_relay_83 : decode bm_Mo_relay 83 = .ok (.iload 5, 2) := by decide +kernel
theorem dd_Mo_relay_85 : decode bm_Mo_relay 85 = .ok (.iload 7, 2) := by decide +kernel
theorem dd_Mo_relay_87 : decode bm_Mo_relay 87 = .ok (.iload_n 2, 1) := by decide +kernel
theorem dd_Mo_relay_88 : decode bm_Mo_relay 88 = .ok (.iconst 0, 1) := by decide +kernel
theorem dd_Mo_relay_89 : decode bm_Mo_relay 89 = .ok (.invokevirtual 154, 3) := by decide +kernel
theorem dd_Mo_relay_92 : decode bm_Mo_relay 92 = .ok (.istore 8, 2) := by decide +kernel
theorem dd_Mo_relay_94 : decode bm_Mo_relay 94 = .ok (.iload 8, 2) := by decide +kernel
theorem dd_Mo_relay_96 : decode bm_Mo_relay 96 = .ok (.ifCond .lt 10, 3) := by decide +kernel
theorem dd_Mo_relay_99 : decode bm_Mo_relay 99 = .ok (.iload 4, 2) := by decide +kernel
theorem dd_Mo_relay_101 : decode bm_Mo_relay 101 = .ok (.iconst 1, 1) := by decide +kernel
theorem dd_Mo_relay_102 : decode bm_Mo_relay 102 = .ok (.iadd, 1) := by decide +kernel
theorem dd_Mo_relay_103 : decode bm_Mo_relay 103 = .ok (.goto 5, 3) := by decide +kernel
theorem dd_Mo_relay_106 : decode bm_Mo_relay 106 = .ok (.iload 4, 2) := by decide +kernel
theorem dd_Mo_relay_108 : decode bm_Mo_relay 108 = .ok (.istore 4, 2) := by decide +kernel
theorem dd_Mo_relay_110 : decode bm_Mo_relay 110 = .ok (.iinc 7 1, 3) := by decide +kernel
theorem dd_Mo_relay_113 : decode bm_Mo_relay 113 = .ok (.goto (-75), 3) := by decide +kernel
theorem dd_Mo_relay_116 : decode bm_Mo_relay 116 = .ok (.iinc 5 1, 3) := by decide +kernel
theorem dd_Mo_relay_119 : decode bm_Mo_relay 119 = .ok (.goto (-113), 3) := by decide +kernel
theorem dd_Mo_relay_122 : decode bm_Mo_relay 122 = .ok (.iload 4, 2) := by decide +kernel
theorem dd_Mo_relay_124 : decode bm_Mo_relay 124 = .ok (.ireturn, 1) := by decide +kernel
theorem dd_Mo_round_0 : decode bm_Mo_round 0 = .ok (.aload_n 0, 1) := by decide +kernel
theorem dd_Mo_round_1 : decode bm_Mo_round 1 = .ok (.iconst 0, 1) := by decide +kernel
theorem dd_Mo_round_2 : decode bm_Mo_round 2 = .ok (.invokevirtual 157, 3) := by decide +kernel
theorem dd_Mo_round_5 : decode bm_Mo_round 5 = .ok (.istore_n 1, 1) := by decide +kernel
theorem dd_Mo_round_6 : decode bm_Mo_round 6 = .ok (.aload_n 0, 1) := by decide +kernel
theorem dd_Mo_round_7 : decode bm_Mo_round 7 = .ok (.iconst 1, 1) := by decide +kernel
theorem dd_Mo_round_8 : decode bm_Mo_round 8 = .ok (.invokevirtual 157, 3) := by decide +kernel
theorem dd_Mo_round_11 : decode bm_Mo_round 11 = .ok (.istore_n 2, 1) := by decide +kernel
theorem dd_Mo_round_12 : decode bm_Mo_round 12 = .ok (.aload_n 0, 1) := by decide +kernel
theorem dd_Mo_round_13 : decode bm_Mo_round 13 = .ok (.iconst 0, 1) := by decide +kernel
theorem dd_Mo_round_14 : decode bm_Mo_round 14 = .ok (.iload_n 2, 1) := by decide +kernel
theorem dd_Mo_round_15 : decode bm_Mo_round 15 = .ok (.bipush 15, 2) := by decide +kernel
theorem dd_Mo_round_17 : decode bm_Mo_round 17 = .ok (.iconst 0, 1) := by decide +kernel
theorem dd_Mo_round_18 : decode bm_Mo_round 18 = .ok (.invokevirtual 160, 3) := by decide +kernel
theorem dd_Mo_round_21 : decode bm_Mo_round 21 = .ok (.aload_n 0, 1) := by decide +kernel
theorem dd_Mo_round_22 : decode bm_Mo_round 22 = .ok (.iconst 1, 1) := by decide +kernel
theorem dd_Mo_round_23 : decode bm_Mo_round 23 = .ok (.iload_n 1, 1) := by decide +kernel
theorem dd_Mo_round_24 : decode bm_Mo_round 24 = .ok (.bipush 15, 2) := by decide +kernel
theorem dd_Mo_round_26 : decode bm_Mo_round 26 = .ok (.iconst 0, 1) := by decide +kernel
theorem dd_Mo_round_27 : decode bm_Mo_round 27 = .ok (.invokevirtual 160, 3) := by decide +kernel
theorem dd_Mo_round_30 : decode bm_Mo_round 30 = .ok (.iadd, 1) := by decide +kernel
theorem dd_Mo_round_31 : decode bm_Mo_round 31 = .ok (.istore_n 3, 1) := by decide +kernel
theorem dd_Mo_round_32 : decode bm_Mo_round 32 = .ok (.iload_n 3, 1) := by decide +kernel
theorem dd_Mo_round_33 : decode bm_Mo_round 33 = .ok (.istore 4, 2) := by decide +kernel
theorem dd_Mo_round_35 : decode bm_Mo_round 35 = .ok (.iconst 0, 1) := by decide +kernel
theorem dd_Mo_round_36 : decode bm_Mo_round 36 = .ok (.istore 5, 2) := by decide +kernel
theorem dd_Mo_round_38 : decode bm_Mo_round 38 = .ok (.iload 5, 2) := by decide +kernel
theorem dd_Mo_round_40 : decode bm_Mo_round 40 = .ok (.iconst 2, 1) := by decide +kernel
theorem dd_Mo_round_41 : decode bm_Mo_round 41 = .ok (.if_icmp .ge 47, 3) := by decide +kernel
theorem dd_Mo_round_44 : decode bm_Mo_round 44 = .ok (.iconst 0, 1) := by decide +kernel
theorem dd_Mo_round_45 : decode bm_Mo_round 45 = .ok (.istore 6, 2) := by decide +kernel
theorem dd_Mo_round_47 : decode bm_Mo_round 47 = .ok (.iload 6, 2) := by decide +kernel
theorem dd_Mo_round_49 : decode bm_Mo_round 49 = .ok (.iconst 3, 1) := by decide +kernel
theorem dd_Mo_round_50 : decode bm_Mo_round 50 = .ok (.if_icmp .ge 32, 3) := by decide +kernel
theorem dd_Mo_round_53 : decode bm_Mo_round 53 = .ok (.iload 4, 2) := by decide +kernel
theorem dd_Mo_round_55 : decode bm_Mo_round 55 = .ok (.aload_n 0, 1) := by decide +kernel
theorem dd_Mo_round_56 : decode bm_Mo_round 56 = .ok (.iload 5, 2) := by decide +kernel
theorem dd_Mo_round_58 : decode bm_Mo_round 58 = .ok (.iload 5, 2) := by decide +kernel
theorem dd_Mo_round_60 : decode bm_Mo_round 60 = .ok (.ifCond .ne 7, 3) := by decide +kernel
theorem dd_Mo_round_63 : decode bm_Mo_round 63 = .ok (.iload_n 2, 1) := by decide +kernel
theorem dd_Mo_round_64 : decode bm_Mo_round 64 = .ok (.goto 4, 3) := by decide +kernel
theorem dd_Mo_round_67 : decode bm_Mo_round 67 = .ok (.iload_n 1, 1) := by decide +kernel
theorem dd_Mo_round_68 : decode bm_Mo_round 68 = .ok (.iload 6, 2) := by decide +kernel
theorem dd_Mo_round_70 : decode bm_Mo_round 70 = .ok (.invokevirtual 164, 3) := by decide +kernel
theorem dd_Mo_round_73 : decode bm_Mo_round 73 = .ok (.iadd, 1) := by decide +kernel
theorem dd_Mo_round_74 : decode bm_Mo_round 74 = .ok (.istore 4, 2) := by decide +kernel
theorem dd_Mo_round_76 : decode bm_Mo_round 76 = .ok (.iinc 6 1, 3) := by decide +kernel
theorem dd_Mo_round_79 : decode bm_Mo_round 79 = .ok (.goto (-32), 3) := by decide +kernel
theorem dd_Mo_round_82 : decode bm_Mo_round 82 = .ok (.iinc 5 1, 3) := by decide +kernel
theorem dd_Mo_round_85 : decode bm_Mo_round 85 = .ok (.goto (-47), 3) := by decide +kernel
theorem dd_Mo_round_88 : decode bm_Mo_round 88 = .ok (.iload 4, 2) := by decide +kernel
theorem dd_Mo_round_90 : decode bm_Mo_round 90 = .ok (.ireturn, 1) := by decide +kernel
theorem dd_Mo_height_0 : decode bm_Mo_height 0 = .ok (.iload_n 1, 1) := by decide +kernel
theorem dd_Mo_height_1 : decode bm_Mo_height 1 = .ok (.iconst 0, 1) := by decide +kernel
theorem dd_Mo_height_2 : decode bm_Mo_height 2 = .ok (.iconst 1, 1) := by decide +kernel
theorem dd_Mo_height_3 : decode bm_Mo_height 3 = .ok (.invokestatic 91, 3) := by decide +kernel
theorem dd_Mo_height_6 : decode bm_Mo_height 6 = .ok (.ifCond .eq 7, 3) := by decide +kernel
theorem dd_Mo_height_9 : decode bm_Mo_height 9 = .ok (.iconst (-1), 1) := by decide +kernel
theorem dd_Mo_height_10 : decode bm_Mo_height 10 = .ok (.goto 9, 3) := by decide +kernel
theorem dd_Mo_height_13 : decode bm_Mo_height 13 = .ok (.aload_n 0, 1) := by decide +kernel
theorem dd_Mo_height_14 : decode bm_Mo_height 14 = .ok (.getfield 7, 3) := by decide +kernel
theorem dd_Mo_height_17 : decode bm_Mo_height 17 = .ok (.iload_n 1, 1) := by decide +kernel
theorem dd_Mo_height_18 : decode bm_Mo_height 18 = .ok (.iaload, 1) := by decide +kernel
theorem dd_Mo_height_19 : decode bm_Mo_height 19 = .ok (.ireturn, 1) := by decide +kernel
theorem dd_Mo_end_0 : decode bm_Mo_end 0 = .ok (.iload_n 1, 1) := by decide +kernel
theorem dd_Mo_end_1 : decode bm_Mo_end 1 = .ok (.iload_n 2, 1) := by decide +kernel
theorem dd_Mo_end_2 : decode bm_Mo_end 2 = .ok (.invokestatic 121, 3) := by decide +kernel
theorem dd_Mo_end_5 : decode bm_Mo_end 5 = .ok (.ifCond .eq 12, 3) := by decide +kernel
theorem dd_Mo_end_8 : decode bm_Mo_end 8 = .ok (.iload_n 3, 1) := by decide +kernel
theorem dd_Mo_end_9 : decode bm_Mo_end 9 = .ok (.iconst 0, 1) := by decide +kernel
theorem dd_Mo_end_10 : decode bm_Mo_end 10 = .ok (.iconst 4, 1) := by decide +kernel
theorem dd_Mo_end_11 : decode bm_Mo_end 11 = .ok (.invokestatic 91, 3) := by decide +kernel
theorem dd_Mo_end_14 : decode bm_Mo_end 14 = .ok (.ifCond .eq 5, 3) := by decide +kernel
theorem dd_Mo_end_17 : decode bm_Mo_end 17 = .ok (.iconst (-1), 1) := by decide +kernel
theorem dd_Mo_end_18 : decode bm_Mo_end 18 = .ok (.ireturn, 1) := by decide +kernel
theorem dd_Mo_end_19 : decode bm_Mo_end 19 = .ok (.iconst 3, 1) := by decide +kernel
theorem dd_Mo_end_20 : decode bm_Mo_end 20 = .ok (.iload_n 1, 1) := by decide +kernel
theorem dd_Mo_end_21 : decode bm_Mo_end 21 = .ok (.imul, 1) := by decide +kernel
theorem dd_Mo_end_22 : decode bm_Mo_end 22 = .ok (.iload_n 2, 1) := by decide +kernel
theorem dd_Mo_end_23 : decode bm_Mo_end 23 = .ok (.iadd, 1) := by decide +kernel
theorem dd_Mo_end_24 : decode bm_Mo_end 24 = .ok (.istore 4, 2) := by decide +kernel
theorem dd_Mo_end_26 : decode bm_Mo_end 26 = .ok (.iload_n 3, 1) := by decide +kernel
theorem dd_Mo_end_27 : decode bm_Mo_end 27 = .ok (.ifCond .ne 13, 3) := by decide +kernel
theorem dd_Mo_end_30 : decode bm_Mo_end 30 = .ok (.aload_n 0, 1) := by decide +kernel
theorem dd_Mo_end_31 : decode bm_Mo_end 31 = .ok (.getfield 29, 3) := by decide +kernel
theorem dd_Mo_end_34 : decode bm_Mo_end 34 = .ok (.iload 4, 2) := by decide +kernel
theorem dd_Mo_end_36 : decode bm_Mo_end 36 = .ok (.iaload, 1) := by decide +kernel
theorem dd_Mo_end_37 : decode bm_Mo_end 37 = .ok (.goto 58, 3) := by decide +kernel
theorem dd_Mo_end_40 : decode bm_Mo_end 40 = .ok (.iload_n 3, 1) := by decide +kernel
theorem dd_Mo_end_41 : decode bm_Mo_end 41 = .ok (.iconst 1, 1) := by decide +kernel
theorem dd_Mo_end_42 : decode bm_Mo_end 42 = .ok (.if_icmp .ne 16, 3) := by decide +kernel
theorem dd_Mo_end_45 : decode bm_Mo_end 45 = .ok (.aload_n 0, 1) := by decide +kernel
theorem dd_Mo_end_46 : decode bm_Mo_end 46 = .ok (.getfield 32, 3) := by decide +kernel
theorem dd_Mo_end_49 : decode bm_Mo_end 49 = .ok (.iload 4, 2) := by decide +kernel
theorem dd_Mo_end_51 : decode bm_Mo_end 51 = .ok (.baload, 1) := by decide +kernel
theorem dd_Mo_end_52 : decode bm_Mo_end 52 = .ok (.invokestatic 124, 3) := by decide +kernel
theorem dd_Mo_end_55 : decode bm_Mo_end 55 = .ok (.goto 40, 3) := by decide +kernel
theorem dd_Mo_end_58 : decode bm_Mo_end 58 = .ok (.iload_n 3, 1) := by decide +kernel
theorem dd_Mo_end_59 : decode bm_Mo_end 59 = .ok (.iconst 2, 1) := by decide +kernel
theorem dd_Mo_end_60 : decode bm_Mo_end 60 = .ok (.if_icmp .ne 13, 3) := by decide +kernel
theorem dd_Mo_end_63 : decode bm_Mo_end 63 = .ok (.aload_n 0, 1) := by decide +kernel
theorem dd_Mo_end_64 : decode bm_Mo_end 64 = .ok (.getfield 35, 3) := by decide +kernel
theorem dd_Mo_end_67 : decode bm_Mo_end 67 = .ok (.iload 4, 2) := by decide +kernel
theorem dd_Mo_end_69 : decode bm_Mo_end 69 = .ok (.iaload, 1) := by decide +kernel
theorem dd_Mo_end_70 : decode bm_Mo_end 70 = .ok (.goto 25, 3) := by decide +kernel
theorem dd_Mo_end_73 : decode bm_Mo_end 73 = .ok (.iload_n 3, 1) := by decide +kernel
theorem dd_Mo_end_74 : decode bm_Mo_end 74 = .ok (.iconst 3, 1) := by decide +kernel
theorem dd_Mo_end_75 : decode bm_Mo_end 75 = .ok (.if_icmp .ne 13, 3) := by decide +kernel
theorem dd_Mo_end_78 : decode bm_Mo_end 78 = .ok (.aload_n 0, 1) := by decide +kernel
theorem dd_Mo_end_79 : decode bm_Mo_end 79 = .ok (.getfield 38, 3) := by decide +kernel
theorem dd_Mo_end_82 : decode bm_Mo_end 82 = .ok (.iload 4, 2) := by decide +kernel
theorem dd_Mo_end_84 : decode bm_Mo_end 84 = .ok (.iaload, 1) := by decide +kernel
theorem dd_Mo_end_85 : decode bm_Mo_end 85 = .ok (.goto 10, 3) := by decide +kernel
theorem dd_Mo_end_88 : decode bm_Mo_end 88 = .ok (.aload_n 0, 1) := by decide +kernel
theorem dd_Mo_end_89 : decode bm_Mo_end 89 = .ok (.getfield 41, 3) := by decide +kernel
theorem dd_Mo_end_92 : decode bm_Mo_end 92 = .ok (.iload 4, 2) := by decide +kernel
theorem dd_Mo_end_94 : decode bm_Mo_end 94 = .ok (.iaload, 1) := by decide +kernel
theorem dd_Mo_end_95 : decode bm_Mo_end 95 = .ok (.ireturn, 1) := by decide +kernel
theorem dd_Mo_isPacket_0 : decode bm_Mo_isPacket 0 = .ok (.iload_n 1, 1) := by decide +kernel
theorem dd_Mo_isPacket_1 : decode bm_Mo_isPacket 1 = .ok (.iload_n 2, 1) := by decide +kernel
theorem dd_Mo_isPacket_2 : decode bm_Mo_isPacket 2 = .ok (.invokestatic 121, 3) := by decide +kernel
theorem dd_Mo_isPacket_5 : decode bm_Mo_isPacket 5 = .ok (.ifCond .eq 25, 3) := by decide +kernel
theorem dd_Mo_isPacket_8 : decode bm_Mo_isPacket 8 = .ok (.iload_n 3, 1) := by decide +kernel
theorem dd_Mo_isPacket_9 : decode bm_Mo_isPacket 9 = .ok (.iconst 1, 1) := by decide +kernel
theorem dd_Mo_isPacket_10 : decode bm_Mo_isPacket 10 = .ok (.aload_n 0, 1) := by decide +kernel
theorem dd_Mo_isPacket_11 : decode bm_Mo_isPacket 11 = .ok (.getfield 35, 3) := by decide +kernel
theorem dd_Mo_isPacket_14 : decode bm_Mo_isPacket 14 = .ok (.iconst 3, 1) := by decide +kernel
theorem dd_Mo_isPacket_15 : decode bm_Mo_isPacket 15 = .ok (.iload_n 1, 1) := by decide +kernel
theorem dd_Mo_isPacket_16 : decode bm_Mo_isPacket 16 = .ok (.imul, 1) := by decide +kernel
theorem dd_Mo_isPacket_17 : decode bm_Mo_isPacket 17 = .ok (.iload_n 2, 1) := by decide +kernel
theorem dd_Mo_isPacket_18 : decode bm_Mo_isPacket 18 = .ok (.iadd, 1) := by decide +kernel
theorem dd_Mo_isPacket_19 : decode bm_Mo_isPacket 19 = .ok (.iaload, 1) := by decide +kernel
theorem dd_Mo_isPacket_20 : decode bm_Mo_isPacket 20 = .ok (.invokestatic 91, 3) := by decide +kernel
theorem dd_Mo_isPacket_23 : decode bm_Mo_isPacket 23 = .ok (.ifCond .ne 7, 3) := by decide +kernel
theorem dd_Mo_isPacket_26 : decode bm_Mo_isPacket 26 = .ok (.iconst 1, 1) := by decide +kernel
theorem dd_Mo_isPacket_27 : decode bm_Mo_isPacket 27 = .ok (.goto 4, 3) := by decide +kernel
theorem dd_Mo_isPacket_30 : decode bm_Mo_isPacket 30 = .ok (.iconst 0, 1) := by decide +kernel
theorem dd_Mo_isPacket_31 : decode bm_Mo_isPacket 31 = .ok (.ireturn, 1) := by decide +kernel
theorem dd_Mo_packet_0 : decode bm_Mo_packet 0 = .ok (.aload_n 0, 1) := by decide +kernel
theorem dd_Mo_packet_1 : decode bm_Mo_packet 1 = .ok (.iload_n 1, 1) := by decide +kernel
theorem dd_Mo_packet_2 : decode bm_Mo_packet 2 = .ok (.iload_n 2, 1) := by decide +kernel
theorem dd_Mo_packet_3 : decode bm_Mo_packet 3 = .ok (.iload_n 3, 1) := by decide +kernel
theorem dd_Mo_packet_4 : decode bm_Mo_packet 4 = .ok (.invokevirtual 167, 3) := by decide +kernel
theorem dd_Mo_packet_7 : decode bm_Mo_packet 7 = .ok (.ifCond .eq 21, 3) := by decide +kernel
theorem dd_Mo_packet_10 : decode bm_Mo_packet 10 = .ok (.aload_n 0, 1) := by decide +kernel
theorem dd_Mo_packet_11 : decode bm_Mo_packet 11 = .ok (.getfield 59, 3) := by decide +kernel
theorem dd_Mo_packet_14 : decode bm_Mo_packet 14 = .ok (.bipush 13, 2) := by decide +kernel
theorem dd_Mo_packet_16 : decode bm_Mo_packet 16 = .ok (.iconst 3, 1) := by decide +kernel
theorem dd_Mo_packet_17 : decode bm_Mo_packet 17 = .ok (.iload_n 1, 1) := by decide +kernel
theorem dd_Mo_packet_18 : decode bm_Mo_packet 18 = .ok (.imul, 1) := by decide +kernel
theorem dd_Mo_packet_19 : decode bm_Mo_packet 19 = .ok (.iload_n 2, 1) := by decide +kernel
theorem dd_Mo_packet_20 : decode bm_Mo_packet 20 = .ok (.iadd, 1) := by decide +kernel
theorem dd_Mo_packet_21 : decode bm_Mo_packet 21 = .ok (.imul, 1) := by decide +kernel
theorem dd_Mo_packet_22 : decode bm_Mo_packet 22 = .ok (.iload_n 3, 1) := by decide +kernel
theorem dd_Mo_packet_23 : decode bm_Mo_packet 23 = .ok (.iadd, 1) := by decide +kernel
theorem dd_Mo_packet_24 : decode bm_Mo_packet 24 = .ok (.iaload, 1) := by decide +kernel
theorem dd_Mo_packet_25 : decode bm_Mo_packet 25 = .ok (.goto 4, 3) := by decide +kernel
theorem dd_Mo_packet_28 : decode bm_Mo_packet 28 = .ok (.iconst (-1), 1) := by decide +kernel
theorem dd_Mo_packet_29 : decode bm_Mo_packet 29 = .ok (.ireturn, 1) := by decide +kernel
theorem dd_Mo_limit_0 : decode bm_Mo_limit 0 = .ok (.aload_n 0, 1) := by decide +kernel
theorem dd_Mo_limit_1 : decode bm_Mo_limit 1 = .ok (.iload_n 1, 1) := by decide +kernel
theorem dd_Mo_limit_2 : decode bm_Mo_limit 2 = .ok (.iload_n 2, 1) := by decide +kernel
theorem dd_Mo_limit_3 : decode bm_Mo_limit 3 = .ok (.iload_n 3, 1) := by decide +kernel
theorem dd_Mo_limit_4 : decode bm_Mo_limit 4 = .ok (.invokevirtual 167, 3) := by decide +kernel
theorem dd_Mo_limit_7 : decode bm_Mo_limit 7 = .ok (.ifCond .eq 21, 3) := by decide +kernel
theorem dd_Mo_limit_10 : decode bm_Mo_limit 10 = .ok (.aload_n 0, 1) := by decide +kernel
theorem dd_Mo_limit_11 : decode bm_Mo_limit 11 = .ok (.getfield 53, 3) := by decide +kernel
theorem dd_Mo_limit_14 : decode bm_Mo_limit 14 = .ok (.bipush 13, 2) := by decide +kernel
theorem dd_Mo_limit_16 : decode bm_Mo_limit 16 = .ok (.iconst 3, 1) := by decide +kernel
theorem dd_Mo_limit_17 : decode bm_Mo_limit 17 = .ok (.iload_n 1, 1) := by decide +kernel
theorem dd_Mo_limit_18 : decode bm_Mo_limit 18 = .ok (.imul, 1) := by decide +kernel
theorem dd_Mo_limit_19 : decode bm_Mo_limit 19 = .ok (.iload_n 2, 1) := by decide +kernel
theorem dd_Mo_limit_20 : decode bm_Mo_limit 20 = .ok (.iadd, 1) := by decide +kernel
theorem dd_Mo_limit_21 : decode bm_Mo_limit 21 = .ok (.imul, 1) := by decide +kernel
theorem dd_Mo_limit_22 : decode bm_Mo_limit 22 = .ok (.iload_n 3, 1) := by decide +kernel
theorem dd_Mo_limit_23 : decode bm_Mo_limit 23 = .ok (.iadd, 1) := by decide +kernel
theorem dd_Mo_limit_24 : decode bm_Mo_limit 24 = .ok (.iaload, 1) := by decide +kernel
theorem dd_Mo_limit_25 : decode bm_Mo_limit 25 = .ok (.goto 4, 3) := by decide +kernel
theorem dd_Mo_limit_28 : decode bm_Mo_limit 28 = .ok (.iconst (-1), 1) := by decide +kernel
theorem dd_Mo_limit_29 : decode bm_Mo_limit 29 = .ok (.ireturn, 1) := by decide +kernel
theorem dd_Mo_balance_0 : decode bm_Mo_balance 0 = .ok (.iload_n 1, 1) := by decide +kernel
theorem dd_Mo_balance_1 : decode bm_Mo_balance 1 = .ok (.iconst 0, 1) := by decide +kernel
theorem dd_Mo_balance_2 : decode bm_Mo_balance 2 = .ok (.iconst 1, 1) := by decide +kernel
theorem dd_Mo_balance_3 : decode bm_Mo_balance 3 = .ok (.invokestatic 91, 3) := by decide +kernel
theorem dd_Mo_balance_6 : decode bm_Mo_balance 6 = .ok (.ifCond .ne 21, 3) := by decide +kernel
theorem dd_Mo_balance_9 : decode bm_Mo_balance 9 = .ok (.iload_n 2, 1) := by decide +kernel
theorem dd_Mo_balance_10 : decode bm_Mo_balance 10 = .ok (.iconst 0, 1) := by decide +kernel
theorem dd_Mo_balance_11 : decode bm_Mo_balance 11 = .ok (.iconst 3, 1) := by decide +kernel
theorem dd_Mo_balance_12 : decode bm_Mo_balance 12 = .ok (.invokestatic 91, 3) := by decide +kernel
theorem dd_Mo_balance_15 : decode bm_Mo_balance 15 = .ok (.ifCond .ne 12, 3) := by decide +kernel
theorem dd_Mo_balance_18 : decode bm_Mo_balance 18 = .ok (.iload_n 3, 1) := by decide +kernel
theorem dd_Mo_balance_19 : decode bm_Mo_balance 19 = .ok (.iconst 0, 1) := by decide +kernel
theorem dd_Mo_balance_20 : decode bm_Mo_balance 20 = .ok (.iconst 5, 1) := by decide +kernel
theorem dd_Mo_balance_21 : decode bm_Mo_balance 21 = .ok (.invokestatic 91, 3) := by decide +kernel
theorem dd_Mo_balance_24 : decode bm_Mo_balance 24 = .ok (.ifCond .eq 7, 3) := by decide +kernel
theorem dd_Mo_balance_27 : decode bm_Mo_balance 27 = .ok (.iconst 0, 1) := by decide +kernel
theorem dd_Mo_balance_28 : decode bm_Mo_balance 28 = .ok (.goto 19, 3) := by decide +kernel
theorem dd_Mo_balance_31 : decode bm_Mo_balance 31 = .ok (.aload_n 0, 1) := by decide +kernel
theorem dd_Mo_balance_32 : decode bm_Mo_balance 32 = .ok (.getfield 65, 3) := by decide +kernel
theorem dd_Mo_balance_35 : decode bm_Mo_balance 35 = .ok (.bipush 24, 2) := by decide +kernel
theorem dd_Mo_balance_37 : decode bm_Mo_balance 37 = .ok (.iload_n 1, 1) := by decide +kernel
theorem dd_Mo_balance_38 : decode bm_Mo_balance 38 = .ok (.imul, 1) := by decide +kernel
theorem dd_Mo_balance_39 : decode bm_Mo_balance 39 = .ok (.bipush 6, 2) := by decide +kernel
theorem dd_Mo_balance_41 : decode bm_Mo_balance 41 = .ok (.iload_n 2, 1) := by decide +kernel
theorem dd_Mo_balance_42 : decode bm_Mo_balance 42 = .ok (.imul, 1) := by decide +kernel
theorem dd_Mo_balance_43 : decode bm_Mo_balance 43 = .ok (.iadd, 1) := by decide +kernel
theorem dd_Mo_balance_44 : decode bm_Mo_balance 44 = .ok (.iload_n 3, 1) := by decide +kernel
theorem dd_Mo_balance_45 : decode bm_Mo_balance 45 = .ok (.iadd, 1) := by decide +kernel
theorem dd_Mo_balance_46 : decode bm_Mo_balance 46 = .ok (.iaload, 1) := by decide +kernel
theorem dd_Mo_balance_47 : decode bm_Mo_balance 47 = .ok (.ireturn, 1) := by decide +kernel
theorem dd_Mo_escrow_0 : decode bm_Mo_escrow 0 = .ok (.iload_n 1, 1) := by decide +kernel
theorem dd_Mo_escrow_1 : decode bm_Mo_escrow 1 = .ok (.iload_n 2, 1) := by decide +kernel
theorem dd_Mo_escrow_2 : decode bm_Mo_escrow 2 = .ok (.invokestatic 121, 3) := by decide +kernel
theorem dd_Mo_escrow_5 : decode bm_Mo_escrow 5 = .ok (.ifCond .eq 12, 3) := by decide +kernel
theorem dd_Mo_escrow_8 : decode bm_Mo_escrow 8 = .ok (.iload_n 3, 1) := by decide +kernel
theorem dd_Mo_escrow_9 : decode bm_Mo_escrow 9 = .ok (.iconst 0, 1) := by decide +kernel
theorem dd_Mo_escrow_10 : decode bm_Mo_escrow 10 = .ok (.iconst 5, 1) := by decide +kernel
theorem dd_Mo_escrow_11 : decode bm_Mo_escrow 11 = .ok (.invokestatic 91, 3) := by decide +kernel
theorem dd_Mo_escrow_14 : decode bm_Mo_escrow 14 = .ok (.ifCond .eq 7, 3) := by decide +kernel
theorem dd_Mo_escrow_17 : decode bm_Mo_escrow 17 = .ok (.iconst 0, 1) := by decide +kernel
theorem dd_Mo_escrow_18 : decode bm_Mo_escrow 18 = .ok (.goto 19, 3) := by decide +kernel
theorem dd_Mo_escrow_21 : decode bm_Mo_escrow 21 = .ok (.aload_n 0, 1) := by decide +kernel
theorem dd_Mo_escrow_22 : decode bm_Mo_escrow 22 = .ok (.getfield 68, 3) := by decide +kernel
theorem dd_Mo_escrow_25 : decode bm_Mo_escrow 25 = .ok (.bipush 18, 2) := by decide +kernel
theorem dd_Mo_escrow_27 : decode bm_Mo_escrow 27 = .ok (.iload_n 1, 1) := by decide +kernel
theorem dd_Mo_escrow_28 : decode bm_Mo_escrow 28 = .ok (.imul, 1) := by decide +kernel
theorem dd_Mo_escrow_29 : decode bm_Mo_escrow 29 = .ok (.bipush 6, 2) := by decide +kernel
theorem dd_Mo_escrow_31 : decode bm_Mo_escrow 31 = .ok (.iload_n 2, 1) := by decide +kernel
theorem dd_Mo_escrow_32 : decode bm_Mo_escrow 32 = .ok (.imul, 1) := by decide +kernel
theorem dd_Mo_escrow_33 : decode bm_Mo_escrow 33 = .ok (.iadd, 1) := by decide +kernel
theorem dd_Mo_escrow_34 : decode bm_Mo_escrow 34 = .ok (.iload_n 3, 1) := by decide +kernel
theorem dd_Mo_escrow_35 : decode bm_Mo_escrow 35 = .ok (.iadd, 1) := by decide +kernel
theorem dd_Mo_escrow_36 : decode bm_Mo_escrow 36 = .ok (.iaload, 1) := by decide +kernel
theorem dd_Mo_escrow_37 : decode bm_Mo_escrow 37 = .ok (.ireturn, 1) := by decide +kernel
theorem dd_Mo_voucher_0 : decode bm_Mo_voucher 0 = .ok (.iload_n 1, 1) := by decide +kernel
theorem dd_Mo_voucher_1 : decode bm_Mo_voucher 1 = .ok (.iconst 0, 1) := by decide +kernel
theorem dd_Mo_voucher_2 : decode bm_Mo_voucher 2 = .ok (.iconst 1, 1) := by decide +kernel
theorem dd_Mo_voucher_3 : decode bm_Mo_voucher 3 = .ok (.invokestatic 91, 3) := by decide +kernel
theorem dd_Mo_voucher_6 : decode bm_Mo_voucher 6 = .ok (.ifCond .ne 17, 3) := by decide +kernel
theorem dd_Mo_voucher_9 : decode bm_Mo_voucher 9 = .ok (.iload_n 2, 1) := by decide +kernel
theorem dd_Mo_voucher_10 : decode bm_Mo_voucher 10 = .ok (.iconst 1, 1) := by decide +kernel
theorem dd_Mo_voucher_11 : decode bm_Mo_voucher 11 = .ok (.aload_n 0, 1) := by decide +kernel
theorem dd_Mo_voucher_12 : decode bm_Mo_voucher 12 = .ok (.getfield 71, 3) := by decide +kernel
theorem dd_Mo_voucher_15 : decode bm_Mo_voucher 15 = .ok (.iload_n 1, 1) := by decide +kernel
theorem dd_Mo_voucher_16 : decode bm_Mo_voucher 16 = .ok (.iaload, 1) := by decide +kernel
theorem dd_Mo_voucher_17 : decode bm_Mo_voucher 17 = .ok (.invokestatic 91, 3) := by decide +kernel
theorem dd_Mo_voucher_20 : decode bm_Mo_voucher 20 = .ok (.ifCond .eq 7, 3) := by decide +kernel
theorem dd_Mo_voucher_23 : decode bm_Mo_voucher 23 = .ok (.iconst (-1), 1) := by decide +kernel
theorem dd_Mo_voucher_24 : decode bm_Mo_voucher 24 = .ok (.goto 28, 3) := by decide +kernel
theorem dd_Mo_voucher_27 : decode bm_Mo_voucher 27 = .ok (.iconst 4, 1) := by decide +kernel
theorem dd_Mo_voucher_28 : decode bm_Mo_voucher 28 = .ok (.aload_n 0, 1) := by decide +kernel
theorem dd_Mo_voucher_29 : decode bm_Mo_voucher 29 = .ok (.getfield 74, 3) := by decide +kernel
theorem dd_Mo_voucher_32 : decode bm_Mo_voucher 32 = .ok (.bipush 6, 2) := by decide +kernel
theorem dd_Mo_voucher_34 : decode bm_Mo_voucher 34 = .ok (.iload_n 1, 1) := by decide +kernel
theorem dd_Mo_voucher_35 : decode bm_Mo_voucher 35 = .ok (.imul, 1) := by decide +kernel
theorem dd_Mo_voucher_36 : decode bm_Mo_voucher 36 = .ok (.iload_n 2, 1) := by decide +kernel
theorem dd_Mo_voucher_37 : decode bm_Mo_voucher 37 = .ok (.iadd, 1) := by decide +kernel
theorem dd_Mo_voucher_38 : decode bm_Mo_voucher 38 = .ok (.iaload, 1) := by decide +kernel
theorem dd_Mo_voucher_39 : decode bm_Mo_voucher 39 = .ok (.imul, 1) := by decide +kernel
theorem dd_Mo_voucher_40 : decode bm_Mo_voucher 40 = .ok (.aload_n 0, 1) := by decide +kernel
theorem dd_Mo_voucher_41 : decode bm_Mo_voucher 41 = .ok (.getfield 77, 3) := by decide +kernel
theorem dd_Mo_voucher_44 : decode bm_Mo_voucher 44 = .ok (.bipush 6, 2) := by decide +kernel
theorem dd_Mo_voucher_46 : decode bm_Mo_voucher 46 = .ok (.iload_n 1, 1) := by decide +kernel
theorem dd_Mo_voucher_47 : decode bm_Mo_voucher 47 = .ok (.imul, 1) := by decide +kernel
theorem dd_Mo_voucher_48 : decode bm_Mo_voucher 48 = .ok (.iload_n 2, 1) := by decide +kernel
theorem dd_Mo_voucher_49 : decode bm_Mo_voucher 49 = .ok (.iadd, 1) := by decide +kernel
theorem dd_Mo_voucher_50 : decode bm_Mo_voucher 50 = .ok (.iaload, 1) := by decide +kernel
theorem dd_Mo_voucher_51 : decode bm_Mo_voucher 51 = .ok (.iadd, 1) := by decide +kernel
theorem dd_Mo_voucher_52 : decode bm_Mo_voucher 52 = .ok (.ireturn, 1) := by decide +kernel
theorem dd_Integer_bitCount_0 : decode bm_Integer_bitCount 0 = .ok (.iload_n 0, 1) := by decide +kernel
theorem dd_Integer_bitCount_1 : decode bm_Integer_bitCount 1 = .ok (.iload_n 0, 1) := by decide +kernel
theorem dd_Integer_bitCount_2 : decode bm_Integer_bitCount 2 = .ok (.iconst 1, 1) := by decide +kernel
theorem dd_Integer_bitCount_3 : decode bm_Integer_bitCount 3 = .ok (.iushr, 1) := by decide +kernel
theorem dd_Integer_bitCount_4 : decode bm_Integer_bitCount 4 = .ok (.ldc_w 265, 3) := by decide +kernel
theorem dd_Integer_bitCount_7 : decode bm_Integer_bitCount 7 = .ok (.iand, 1) := by decide +kernel
theorem dd_Integer_bitCount_8 : decode bm_Integer_bitCount 8 = .ok (.isub, 1) := by decide +kernel
theorem dd_Integer_bitCount_9 : decode bm_Integer_bitCount 9 = .ok (.istore_n 0, 1) := by decide +kernel
theorem dd_Integer_bitCount_10 : decode bm_Integer_bitCount 10 = .ok (.iload_n 0, 1) := by decide +kernel
theorem dd_Integer_bitCount_11 : decode bm_Integer_bitCount 11 = .ok (.ldc_w 266, 3) := by decide +kernel
theorem dd_Integer_bitCount_14 : decode bm_Integer_bitCount 14 = .ok (.iand, 1) := by decide +kernel
theorem dd_Integer_bitCount_15 : decode bm_Integer_bitCount 15 = .ok (.iload_n 0, 1) := by decide +kernel
theorem dd_Integer_bitCount_16 : decode bm_Integer_bitCount 16 = .ok (.iconst 2, 1) := by decide +kernel
theorem dd_Integer_bitCount_17 : decode bm_Integer_bitCount 17 = .ok (.iushr, 1) := by decide +kernel
theorem dd_Integer_bitCount_18 : decode bm_Integer_bitCount 18 = .ok (.ldc_w 266, 3) := by decide +kernel
theorem dd_Integer_bitCount_21 : decode bm_Integer_bitCount 21 = .ok (.iand, 1) := by decide +kernel
theorem dd_Integer_bitCount_22 : decode bm_Integer_bitCount 22 = .ok (.iadd, 1) := by decide +kernel
theorem dd_Integer_bitCount_23 : decode bm_Integer_bitCount 23 = .ok (.istore_n 0, 1) := by decide +kernel
theorem dd_Integer_bitCount_24 : decode bm_Integer_bitCount 24 = .ok (.iload_n 0, 1) := by decide +kernel
theorem dd_Integer_bitCount_25 : decode bm_Integer_bitCount 25 = .ok (.iload_n 0, 1) := by decide +kernel
theorem dd_Integer_bitCount_26 : decode bm_Integer_bitCount 26 = .ok (.iconst 4, 1) := by decide +kernel
theorem dd_Integer_bitCount_27 : decode bm_Integer_bitCount 27 = .ok (.iushr, 1) := by decide +kernel
theorem dd_Integer_bitCount_28 : decode bm_Integer_bitCount 28 = .ok (.iadd, 1) := by decide +kernel
theorem dd_Integer_bitCount_29 : decode bm_Integer_bitCount 29 = .ok (.ldc_w 267, 3) := by decide +kernel
theorem dd_Integer_bitCount_32 : decode bm_Integer_bitCount 32 = .ok (.iand, 1) := by decide +kernel
theorem dd_Integer_bitCount_33 : decode bm_Integer_bitCount 33 = .ok (.istore_n 0, 1) := by decide +kernel
theorem dd_Integer_bitCount_34 : decode bm_Integer_bitCount 34 = .ok (.iload_n 0, 1) := by decide +kernel
theorem dd_Integer_bitCount_35 : decode bm_Integer_bitCount 35 = .ok (.iload_n 0, 1) := by decide +kernel
theorem dd_Integer_bitCount_36 : decode bm_Integer_bitCount 36 = .ok (.bipush 8, 2) := by decide +kernel
theorem dd_Integer_bitCount_38 : decode bm_Integer_bitCount 38 = .ok (.iushr, 1) := by decide +kernel
theorem dd_Integer_bitCount_39 : decode bm_Integer_bitCount 39 = .ok (.iadd, 1) := by decide +kernel
theorem dd_Integer_bitCount_40 : decode bm_Integer_bitCount 40 = .ok (.istore_n 0, 1) := by decide +kernel
theorem dd_Integer_bitCount_41 : decode bm_Integer_bitCount 41 = .ok (.iload_n 0, 1) := by decide +kernel
theorem dd_Integer_bitCount_42 : decode bm_Integer_bitCount 42 = .ok (.iload_n 0, 1) := by decide +kernel
theorem dd_Integer_bitCount_43 : decode bm_Integer_bitCount 43 = .ok (.bipush 16, 2) := by decide +kernel
theorem dd_Integer_bitCount_45 : decode bm_Integer_bitCount 45 = .ok (.iushr, 1) := by decide +kernel
theorem dd_Integer_bitCount_46 : decode bm_Integer_bitCount 46 = .ok (.iadd, 1) := by decide +kernel
theorem dd_Integer_bitCount_47 : decode bm_Integer_bitCount 47 = .ok (.istore_n 0, 1) := by decide +kernel
theorem dd_Integer_bitCount_48 : decode bm_Integer_bitCount 48 = .ok (.iload_n 0, 1) := by decide +kernel
theorem dd_Integer_bitCount_49 : decode bm_Integer_bitCount 49 = .ok (.bipush 63, 2) := by decide +kernel
theorem dd_Integer_bitCount_51 : decode bm_Integer_bitCount 51 = .ok (.iand, 1) := by decide +kernel
theorem dd_Integer_bitCount_52 : decode bm_Integer_bitCount 52 = .ok (.ireturn, 1) := by decide +kernel
end
section
/-! worlds of consecutive cells, rows over them -/
def zw_l (B n : Nat) (f : Nat → va_E) : va_W := (List.range n).map (fun x => (B + x, f x))
def zw_A (B n : Nat) : Nat → Prop := fun q => B ≤ q ∧ q < B + n
theorem zw_len {B n : Nat} {f : Nat → va_E} : (zw_l B n f).length = n := by simp [zw_l]
theorem zw_get {B n x : Nat} {f : Nat → va_E} (h : x < n) : (zw_l B n f)[x]? = some (B + x, f x) := by
  simp [zw_l, List.getElem?_map, List.getElem?_range h]
theorem zw_some {B n k : Nat} {f : Nat → va_E} {q : Nat × va_E} (h : (zw_l B n f)[k]? = some q) : k < n ∧ q = (B + k, f k) := by
  have hl := (List.getElem?_eq_some_iff.mp h).1
  have hk : k < n := by rw [zw_len] at hl; exact hl
  refine ⟨hk, ?_⟩
  rw [zw_get hk] at h
  exact (Option.some.inj h).symm
theorem zw_D {A : Nat → Prop} {B n : Nat} {f : Nat → va_E} (hA : ∀ q, zw_A B n q → A q) : va_D A (zw_l B n f) := by
  refine ⟨fun i j x y hi hj hxy => ?_, fun k q hk => ?_⟩
  · obtain ⟨-, rfl⟩ := zw_some hi
    obtain ⟨-, rfl⟩ := zw_some hj
    have h : B + i = B + j := hxy
    omega
  · obtain ⟨h, rfl⟩ := zw_some hk
    exact hA _ ⟨Nat.le_add_right _ _, by show B + k < B + n; omega⟩
theorem zw_set {B n x : Nat} {f : Nat → va_E} {e : va_E} : (zw_l B n f).set x (B + x, e) = zw_l B n (va_up f x e) := by
  apply List.ext_getElem?
  intro j
  by_cases hj : j < n
  · by_cases hx : j = x
    · subst hx
      rw [List.getElem?_set_self (by rw [zw_len]; exact hj), zw_get hj, va_up_self]
    · rw [List.getElem?_set_ne (Ne.symm hx), zw_get hj, zw_get hj, va_up_ne _ _ hx]
  · rw [List.getElem?_eq_none (by rw [List.length_set, zw_len]; omega), List.getElem?_eq_none (by rw [zw_len]; omega)]
theorem zw_cg {B n : Nat} {f g : Nat → va_E} (h : ∀ x, x < n → f x = g x) : zw_l B n f = zw_l B n g := by
  unfold zw_l
  exact List.map_congr_left (fun x hx => by rw [h x (List.mem_range.mp hx)])
/-- the environment: class tables, array classes, the nest mates' words -/
abbrev zw_G : Type := va_G × (Nat → ClassId)
def zw_ty (a : Nat → ClassId) : List (ClassId × FieldType) := [(a 0, .int), (a 1, .boolean), (a 2, .object "TwinLedgers$Ledger"), (a 3, .object "TwinLedgers$Store"), (a 4, .object "TwinLedgers$End"), (a 5, .object "TwinLedgers$Packet"), (a 6, .array .int)]
def zw_isN : Cond → Bool
  | .fieldLinkNest .. => true
  | .methodLinkNest .. => true
  | _ => false
theorem zw_nw {s U : State} (hW : s.WarmedH U.vm) (w : Cond) (hn : zw_isN w = true) (h : va_Nw w s) : va_Nw w U := by
  unfold zw_isN at hn
  split at hn
  · exact va_Nw.warmF hW h
  · exact va_Nw.warmM hW h
  · cases hn
theorem zw_nt (w : Cond) (hn : zw_isN w = true) : w.onTables = true := by
  unfold zw_isN at hn
  split at hn
  · rfl
  · rfl
  · cases hn
theorem zw_NSok : ∀ w ∈ zw_NS, zw_isN w = true := by decide +kernel
def zw_E (G : zw_G) (U : State) : Prop := va_K G.1 zw_cl (zw_ty G.2) U ∧ ∀ w ∈ zw_NS, va_Nw w U
theorem zw_E.warm {G : zw_G} {s U : State} (hW : s.WarmedH U.vm) (h : zw_E G s) : zw_E G U := ⟨va_K.moved hW.alike h.1, fun w hw => zw_nw hW w (zw_NSok w hw) (h.2 w hw)⟩
theorem zw_E.call {G : zw_G} {U : State} {g : JFrame} {mk : MethodId} {a : Array Value} (h : zw_E G U) : zw_E G (U.calling g mk a) := ⟨va_K.moved (u := U) (U := U.calling g mk a) (Vm.Alike.refl U.vm) h.1, fun w hw => va_Nw.same (u := U) (U := U.calling g mk a) (zw_nt w (zw_NSok w hw)) rfl (h.2 w hw)⟩
/-- contracts -/
abbrev zw_Pc (G : zw_G) (B n : Nat) (f : Nat → va_E) (av : List Value) : Array Value → State → Prop := va_Pc av (fun U => zw_E G U ∧ va_P G.1 zw_cl (zw_l B n f) U.heap)
abbrev zw_Qi (G : zw_G) (B n : Nat) (f : Nat → va_E) (r : Int32) : Array Value → State → Outcome → State → Prop := va_Qi (fun (x : Int32) (_ : Unit) => x = r) (fun _ t => va_P G.1 zw_cl (zw_l B n f) t.heap) (zw_A B n)
abbrev zw_Qv (G : zw_G) (B n : Nat) (f : Nat → va_E) : Array Value → State → Outcome → State → Prop := va_Qv (fun (_ : Unit) => True) (fun _ t => va_P G.1 zw_cl (zw_l B n f) t.heap) (zw_A B n)
abbrev zw_M (l : Launch) (y : MethodName) (cd : ByteArray) (ml : Nat) (rt : Option FieldType) (rm : Room) (G : zw_G) (B n : Nat) (f : Nat → va_E) (av : List Value) (Qc : Array Value → State → Outcome → State → Prop) : Prop := Met l y (Cond.code y cd ml rt :: zw_WS) rm (zw_Pc G B n f av) Qc 0 0 (zw_A B n)
theorem zw_of {l : Launch} {y : MethodName} {cd : ByteArray} {ml : Nat} {rt : Option FieldType} {rm : Room} {G : zw_G} {B n : Nat} {f : Nat → va_E} {av : List Value} {Qc : Array Value → State → Outcome → State → Prop} (hy : plainName y.cls = true) (hlen : (lg_sl av).length ≤ ml)
    (body : ∀ (p : Program) (e : Env) (s : State) (m : MethodId) (below : List Frame) (meth : Method) (cx : Code) (ls : Array Slot), CallFix p m cx cd ml s av.toArray zw_WS y.cls → meth.sig.returnType = rt → meth.locks = false → zw_E G s → va_P G.1 zw_cl (zw_l B n f) s.heap → va_S (zw_A B n) s.heap s.heap [] → lv_has ls ml (lv_args 0 av) →
      W p l e rm s m av.toArray below meth cx s.heap [] 0 0 (MQ below Qc av.toArray s 0 0 (zw_A B n)) (F0 m 0 ls [])) : zw_M l y cd ml rt rm G B n f av Qc := by
  refine Met.ofW (cc := cd) (maxL := ml) (ret := rt) hy rfl ?_
  intro p e s m args below meth cx s₁ Bd hml hv
  obtain ⟨rfl, hE, hP⟩ := hv
  have hts := atoms_spec (ws := Cond.code y cd ml rt :: zw_WS) Bd.pre
  rw [lg_entry_eq]
  exact body p e s m below meth cx _ ⟨Bd.exec, Bd.bytes, hml, findClass_of_methodNamed Bd.named, fun w hw => hts w (List.mem_cons_of_mem _ hw)⟩ Bd.returns Bd.notSynchronized hE hP va_S.rf (lv_entry av hlen)
/-- what is known of a callee -/
def zw_ok (y : MethodName) (cd : ByteArray) (ml : Nat) (rt : Option FieldType) (n : Nat) : Prop := Cond.code y cd ml rt ∈ zw_WS ∧ Cond.initialized y.cls ∈ zw_WS ∧ (y.cls ≠ "java/lang/invoke/MethodHandle" ∧ y.cls ≠ "java/lang/invoke/VarHandle" ∧ (parseMethodDescriptor y.desc).map (fun d => d.parameters.length) = some n)
theorem zw_good : ∀ w ∈ zw_WS, goodWord w = true := fun w hw => (List.mem_filter.mp hw).2
theorem zw_gi {y : MethodName} {cd : ByteArray} {ml : Nat} {rt : Option FieldType} (h : Cond.code y cd ml rt ∈ zw_WS) : GoodIn zw_WS (Cond.code y cd ml rt :: zw_WS) := by
  intro w hw
  have hm : w ∈ zw_WS := by
    rcases List.mem_cons.mp hw with rfl | hw
    · exact h
    · exact hw
  exact ⟨hm, good_of_word (zw_good w hm)⟩
section ZWR
variable {p : Program} {l : Launch} {e : Env} {R : Room} {s : State} {m : MethodId} {args : Array Value} {below : List Frame} {meth : Method} {c : Code} {H : Heap} {locs : List Loc} {cells slots : Nat} {Q : State → Prop}
variable {cc : ByteArray} {pc nL : Nat} {ls : Array Slot} {rest st0 : List Value} {A : Nat → Prop} {H0 : Heap} {G : zw_G} {B n : Nat} {f f' : Nat → va_E} {own : String}
variable {y : MethodName} {cd : ByteArray} {ml index : Nat} {rt : Option FieldType} {rm : Room} {As : List Value} {b : Nat} {Qc : Array Value → State → Outcome → State → Prop}
theorem zw_blind {av : List Value} : FrameBlind (zw_Pc G B n f av) := fun _ _ _ _ q => ⟨q.1, zw_E.call q.2.1, q.2.2⟩
theorem zw_rV (F : CallFix p m c cc nL s args zw_WS own) (hE : zw_E G s) (hP : va_P G.1 zw_cl (zw_l B n f) H) (hM : zw_M l y cd ml rt rm G B n f (.ref b :: As) Qc) (hk : zw_ok y cd ml rt As.length) (hi : Cond.instanceMethod y ∈ zw_WS) (hs : Cond.selects y.cls y y ∈ zw_WS) (hl : Cond.methodLink own index y ∈ zw_WS)
    (hrm : rm.cells = 0 ∧ rm.slots = 0 ∧ rm.frames + 1 ≤ R.frames ∧ 8 + (ml + 11) + rm.locals ≤ R.locals) (hrecv : ∃ cellB : Cell, H[b]? = some cellB ∧ cellB.vm.isStatics = false ∧ s.vm.findClass y.cls = some cellB.cls) (hsz : ls.size = nL) (hst : st0 = As.reverse ++ .ref b :: rest) (hW : (rest.map fun v => v.category).sum ≤ 8) (hcs : cells ≤ R.cells ∧ slots ≤ R.slots) (hdg : decode cc pc = .ok (.invokevirtual index, 3)) :
    va_Run p l e R s m args below meth c H locs cells slots 0 0 (F0 m pc ls st0) rest (Qc (Value.ref b :: As).toArray) (zw_A B n) := by
  obtain ⟨hx, hb, hml, hown, hts⟩ := F
  exact va_runV ⟨hx, hb, hml, hown, hts⟩ hM ⟨callB_of As.length hts (zw_gi hk.1) rfl hrm.1 hrm.2.1 (hts _ hk.2.1) (hts _ hl) hk.2.2 hrm.2.2, hts _ hi, hts _ hs⟩ ⟨zw_blind, hrecv, fun U hU hW => ⟨rfl, zw_E.warm hW hE, by rw [hU]; exact hP⟩⟩ rfl rfl hsz hst (lv_room hW) hdg hcs
theorem zw_rVN {host : String} (F : CallFix p m c cc nL s args zw_WS own) (hE : zw_E G s) (hP : va_P G.1 zw_cl (zw_l B n f) H) (hM : zw_M l y cd ml rt rm G B n f (.ref b :: As) Qc) (hk : zw_ok y cd ml rt As.length) (hi : Cond.instanceMethod y ∈ zw_WS) (hs : Cond.selects y.cls y y ∈ zw_WS) (hl : Cond.methodLinkNest own index y host ∈ zw_NS)
    (hrm : rm.cells = 0 ∧ rm.slots = 0 ∧ rm.frames + 1 ≤ R.frames ∧ 8 + (ml + 11) + rm.locals ≤ R.locals) (hrecv : ∃ cellB : Cell, H[b]? = some cellB ∧ cellB.vm.isStatics = false ∧ s.vm.findClass y.cls = some cellB.cls) (hsz : ls.size = nL) (hst : st0 = As.reverse ++ .ref b :: rest) (hW : (rest.map fun v => v.category).sum ≤ 8) (hcs : cells ≤ R.cells ∧ slots ≤ R.slots) (hdg : decode cc pc = .ok (.invokevirtual index, 3)) :
    va_Run p l e R s m args below meth c H locs cells slots 0 0 (F0 m pc ls st0) rest (Qc (Value.ref b :: As).toArray) (zw_A B n) := by
  obtain ⟨hx, hb, hml, hown, hts⟩ := F
  exact va_runVN ⟨hx, hb, hml, hown, hts⟩ hM ⟨va_cnB As.length hts (zw_gi hk.1) rfl hrm.1 hrm.2.1 (hE.2 _ hl) (hts _ hk.2.1) hk.2.2 hrm.2.2, hts _ hi, hts _ hs⟩ ⟨zw_blind, hrecv, fun U hU hW => ⟨rfl, zw_E.warm hW hE, by rw [hU]; exact hP⟩⟩ rfl rfl hsz hst (lv_room hW) hdg hcs
theorem zw_rS (F : CallFix p m c cc nL s args zw_WS own) (hE : zw_E G s) (hP : va_P G.1 zw_cl (zw_l B n f) H) (hM : zw_M l y cd ml rt rm G B n f As Qc) (hk : zw_ok y cd ml rt As.length) (hi : Cond.static y ∈ zw_WS) (hl : Cond.methodLink own index y ∈ zw_WS)
    (hrm : rm.cells = 0 ∧ rm.slots = 0 ∧ rm.frames + 1 ≤ R.frames ∧ 8 + (ml + 11) + rm.locals ≤ R.locals) (hsz : ls.size = nL) (hst : st0 = As.reverse ++ rest) (hW : (rest.map fun v => v.category).sum ≤ 8) (hcs : cells ≤ R.cells ∧ slots ≤ R.slots) (hdg : decode cc pc = .ok (.invokestatic index, 3)) :
    va_Run p l e R s m args below meth c H locs cells slots 0 0 (F0 m pc ls st0) rest (Qc As.toArray) (zw_A B n) := by
  obtain ⟨hx, hb, hml, hown, hts⟩ := F
  exact va_runS ⟨hx, hb, hml, hown, hts⟩ hM ⟨callB_of As.length hts (zw_gi hk.1) rfl hrm.1 hrm.2.1 (hts _ hk.2.1) (hts _ hl) hk.2.2 hrm.2.2, hts _ hi⟩ ⟨zw_blind, fun U hU hW => ⟨rfl, zw_E.warm hW hE, by rw [hU]; exact hP⟩⟩ rfl rfl hsz hst (lv_room hW) hdg hcs
theorem zw_rSN {host : String} (F : CallFix p m c cc nL s args zw_WS own) (hE : zw_E G s) (hP : va_P G.1 zw_cl (zw_l B n f) H) (hM : zw_M l y cd ml rt rm G B n f As Qc) (hk : zw_ok y cd ml rt As.length) (hi : Cond.static y ∈ zw_WS) (hl : Cond.methodLinkNest own index y host ∈ zw_NS)
    (hrm : rm.cells = 0 ∧ rm.slots = 0 ∧ rm.frames + 1 ≤ R.frames ∧ 8 + (ml + 11) + rm.locals ≤ R.locals) (hsz : ls.size = nL) (hst : st0 = As.reverse ++ rest) (hW : (rest.map fun v => v.category).sum ≤ 8) (hcs : cells ≤ R.cells ∧ slots ≤ R.slots) (hdg : decode cc pc = .ok (.invokestatic index, 3)) :
    va_Run p l e R s m args below meth c H locs cells slots 0 0 (F0 m pc ls st0) rest (Qc As.toArray) (zw_A B n) := by
  obtain ⟨hx, hb, hml, hown, hts⟩ := F
  exact va_runSN ⟨hx, hb, hml, hown, hts⟩ hM ⟨va_cnB As.length hts (zw_gi hk.1) rfl hrm.1 hrm.2.1 (hE.2 _ hl) (hts _ hk.2.1) hk.2.2 hrm.2.2, hts _ hi, trivial⟩ ⟨zw_blind, fun U hU hW => ⟨rfl, zw_E.warm hW hE, by rw [hU]; exact hP⟩⟩ rfl rfl hsz hst (lv_room hW) hdg hcs
/-- behind a call -/
theorem zw_goi {a : Array Value} {r : Int32} (hr : va_Run p l e R s m args below meth c H locs cells slots 0 0 (F0 m pc ls st0) rest (zw_Qi G B n f' r a) (zw_A B n)) (hS : va_S A H0 H locs) (hA : ∀ q, zw_A B n q → A q)
    (kk : ∀ (H1 : Heap) (locs1 : List Loc), va_P G.1 zw_cl (zw_l B n f') H1 → H.size ≤ H1.size → (∀ q : Nat, q < H.size → ¬ zw_A B n q → H1[q]? = H[q]?) → va_S A H0 H1 locs1 → W p l e R s m args below meth c H1 locs1 cells slots Q (F0 m (pc + 3) ls (.int r :: rest))) : W p l e R s m args below meth c H locs cells slots Q (F0 m pc ls st0) := by
  refine va_calli hr hS (fun q _ h => hA q h) hA (fun r' u t H1 locs1 ht hvm hp hB hz hk1 hS1 => ?_)
  have hp' : r' = r := hp
  subst hp'
  have hB' : va_P G.1 zw_cl (zw_l B n f') t.heap := hB
  rw [ht] at hB'
  exact kk H1 locs1 hB' hz hk1 hS1
theorem zw_gov {a : Array Value} (hr : va_Run p l e R s m args below meth c H locs cells slots 0 0 (F0 m pc ls st0) rest (zw_Qv G B n f' a) (zw_A B n)) (hS : va_S A H0 H locs) (hA : ∀ q, zw_A B n q → A q)
    (kk : ∀ (H1 : Heap) (locs1 : List Loc), va_P G.1 zw_cl (zw_l B n f') H1 → H.size ≤ H1.size → (∀ q : Nat, q < H.size → ¬ zw_A B n q → H1[q]? = H[q]?) → va_S A H0 H1 locs1 → W p l e R s m args below meth c H1 locs1 cells slots Q (F0 m (pc + 3) ls rest)) : W p l e R s m args below meth c H locs cells slots Q (F0 m pc ls st0) := by
  refine va_callv hr hS (fun q _ h => hA q h) hA (fun u t H1 locs1 ht hvm hp hB hz hk1 hS1 => ?_)
  have hB' : va_P G.1 zw_cl (zw_l B n f') t.heap := hB
  rw [ht] at hB'
  exact kk H1 locs1 hB' hz hk1 hS1
/-- the receiver of a call -/
theorem zw_recv {x ci : Nat} {fs : List Value} {q : vw_C} (hE : zw_E G s) (hP : va_P G.1 zw_cl (zw_l B n f) H) (hx : x < n) (he : f x = .inr (ci, fs)) (hc : zw_cl[ci]? = some q) : ∃ cellB : Cell, H[B + x]? = some cellB ∧ cellB.vm.isStatics = false ∧ s.vm.findClass q.1 = some cellB.cls :=
  va_recv (q0 := x) (fs := fs) hE.1 hP hc (by rw [zw_get hx, he])
/-- a method's end -/
theorem zw_iret {v r : Int32} {f1 : Nat → va_E} (F : CallFix p m c cc nL s args zw_WS own) (hr : meth.sig.returnType = some .int) (hlk : meth.locks = false) (hP : va_P G.1 zw_cl (zw_l B n f1) H) (hS : va_S (zw_A B n) s.heap H locs) (hf : f1 = f') (hv : v = r) (hdg : decode cc pc = .ok (.ireturn, 1)) :
    W p l e R s m args below meth c H locs 0 0 (MQ below (zw_Qi G B n f' r) args s 0 0 (zw_A B n)) (F0 m pc ls [.int v]) := by
  subst hf
  exact W.iret F.1 F.2.1 hr (fun t ht _ => ⟨⟨v, (), rfl, hv, by show va_P _ _ _ t.heap; rw [ht]; exact hP⟩, hS.F ht⟩) hS.2.2 hdg hlk
theorem zw_zret {v r : Int32} {f1 : Nat → va_E} (F : CallFix p m c cc nL s args zw_WS own) (hr : meth.sig.returnType = some .boolean) (hlk : meth.locks = false) (hP : va_P G.1 zw_cl (zw_l B n f1) H) (hS : va_S (zw_A B n) s.heap H locs) (hf : f1 = f') (h01 : v = 0 ∨ v = 1) (hv : v = r) (hdg : decode cc pc = .ok (.ireturn, 1)) :
    W p l e R s m args below meth c H locs 0 0 (MQ below (zw_Qi G B n f' r) args s 0 0 (zw_A B n)) (F0 m pc ls [.int v]) := by
  subst hf
  exact W.zret F.1 F.2.1 hr (by rcases h01 with rfl | rfl <;> rfl) (fun t ht _ => ⟨⟨v, (), rfl, hv, by show va_P _ _ _ t.heap; rw [ht]; exact hP⟩, hS.F ht⟩) hS.2.2 hdg hlk
theorem zw_vret {f1 : Nat → va_E} (F : CallFix p m c cc nL s args zw_WS own) (hr : meth.sig.returnType = none) (hlk : meth.locks = false) (hP : va_P G.1 zw_cl (zw_l B n f1) H) (hS : va_S (zw_A B n) s.heap H locs) (hf : f1 = f') (hdg : decode cc pc = .ok (.return_, 1)) :
    W p l e R s m args below meth c H locs 0 0 (MQ below (zw_Qv G B n f') args s 0 0 (zw_A B n)) (F0 m pc ls []) := by
  subst hf
  exact W.vret F.1 F.2.1 hr (fun t ht _ => ⟨⟨(), rfl, trivial, by show va_P _ _ _ t.heap; rw [ht]; exact hP⟩, hS.F ht⟩) hS.2.2 hdg hlk
/-- fields -/
theorem zw_gF {C : String} {T : u_T} {N ci : Nat} {fs : List Value} {v : Value} (F : CallFix p m c cc nL s args zw_WS own) (hE : zw_E G s) (hP : va_P G.1 zw_cl (zw_l B n f) H) {x : Nat} (hx : x < n) (he : f x = .inr (ci, fs)) (hc : zw_cl[ci]? = some (C, T, N)) (hin : ∀ w ∈ u_ws C T N, w ∈ zw_WS) (k : Nat) (hk : k < N) (hd : (T k).1 = C) (hl : Cond.fieldLink own index C (T k).2.1 (T k).2.2.1 ∈ zw_WS) (hv : fs[k]? = some v) (hdg : decode cc pc = .ok (.getfield index, 3))
    (kk : W p l e R s m args below meth c H locs cells slots Q (F0 m (pc + 3) ls (v :: rest))) : W p l e R s m args below meth c H locs cells slots Q (F0 m pc ls (.ref (B + x) :: rest)) :=
  va_get F.1 F.2.1 F.2.2.2.2 hin F.2.2.2.1 hE.1 hP x (by rw [zw_get hx, he]) hc k hk (F.2.2.2.2 _ hl) (fun z hz => by rw [hd] at hz; exact hz) hv hdg kk
theorem zw_gN {C host : String} {T : u_T} {N ci : Nat} {fs : List Value} {v : Value} (F : CallFix p m c cc nL s args zw_WS own) (hE : zw_E G s) (hP : va_P G.1 zw_cl (zw_l B n f) H) {x : Nat} (hx : x < n) (he : f x = .inr (ci, fs)) (hc : zw_cl[ci]? = some (C, T, N)) (hin : ∀ w ∈ u_ws C T N, w ∈ zw_WS) (k : Nat) (hk : k < N) (hd : (T k).1 = C) (hl : Cond.fieldLinkNest own index C (T k).2.1 (T k).2.2.1 host ∈ zw_NS) (hv : fs[k]? = some v) (hdg : decode cc pc = .ok (.getfield index, 3))
    (kk : W p l e R s m args below meth c H locs cells slots Q (F0 m (pc + 3) ls (v :: rest))) : W p l e R s m args below meth c H locs cells slots Q (F0 m pc ls (.ref (B + x) :: rest)) :=
  va_getN F.1 F.2.1 F.2.2.2.2 hin F.2.2.2.1 hE.1 hP x (by rw [zw_get hx, he]) hc k hk (va_Nw.use rfl (hE.2 _ hl)) (fun z hz => by rw [hd] at hz; exact hz) hv hdg kk
theorem zw_pF {C : String} {T : u_T} {N ci : Nat} {fs : List Value} {v : Value} {ty : FieldType} (F : CallFix p m c cc nL s args zw_WS own) (hE : zw_E G s) (hP : va_P G.1 zw_cl (zw_l B n f) H) (hS : va_S A H0 H locs) (hA : ∀ q, zw_A B n q → A q) {x : Nat} (hx : x < n) (he : f x = .inr (ci, fs)) (hc : zw_cl[ci]? = some (C, T, N)) (hin : ∀ w ∈ u_ws C T N, w ∈ zw_WS) (ty0 : Nat → FieldType) (hty : ∀ k, k < N → parseFieldDescriptor (T k).2.2.1 = some (ty0 k)) (hnm : ∀ a, a < N → ∀ b, b < N → a ≠ b → (T a).2.1 ≠ (T b).2.1) (k : Nat) (hk : k < N) (hd : (T k).1 = C) (hfin : (T k).2.2.2 = false) (hl : Cond.fieldLink own index C (T k).2.1 (T k).2.2.1 ∈ zw_WS) (hpd : parseFieldDescriptor (T k).2.2.1 = some ty) (hn : narrow ty v = v) (hfit : fits ty v = true) (hlf : k < fs.length) (hdg : decode cc pc = .ok (.putfield index, 3))
    (kk : ∀ (H1 : Heap) (locs1 : List Loc), va_P G.1 zw_cl (zw_l B n (va_up f x (.inr (ci, fs.set k v)))) H1 → va_S A H0 H1 locs1 → W p l e R s m args below meth c H1 locs1 cells slots Q (F0 m (pc + 3) ls rest)) : W p l e R s m args below meth c H locs cells slots Q (F0 m pc ls (v :: .ref (B + x) :: rest)) :=
  va_put F.1 F.2.1 F.2.2.2.2 hin ty0 hty hnm F.2.2.2.1 hE.1 hP (zw_D hA) hS x (by rw [zw_get hx, he]) hc k hk (F.2.2.2.2 _ hl) (fun z hz => by rw [hd] at hz; exact hz) hfin hpd hn hfit hlf hdg (fun H1 locs1 h1 _ h3 => kk H1 locs1 (by rw [zw_set] at h1; exact h1) h3)
theorem zw_pN {C host : String} {T : u_T} {N ci : Nat} {fs : List Value} {v : Value} {ty : FieldType} (F : CallFix p m c cc nL s args zw_WS own) (hE : zw_E G s) (hP : va_P G.1 zw_cl (zw_l B n f) H) (hS : va_S A H0 H locs) (hA : ∀ q, zw_A B n q → A q) {x : Nat} (hx : x < n) (he : f x = .inr (ci, fs)) (hc : zw_cl[ci]? = some (C, T, N)) (hin : ∀ w ∈ u_ws C T N, w ∈ zw_WS) (ty0 : Nat → FieldType) (hty : ∀ k, k < N → parseFieldDescriptor (T k).2.2.1 = some (ty0 k)) (hnm : ∀ a, a < N → ∀ b, b < N → a ≠ b → (T a).2.1 ≠ (T b).2.1) (k : Nat) (hk : k < N) (hd : (T k).1 = C) (hfin : (T k).2.2.2 = false) (hl : Cond.fieldLinkNest own index C (T k).2.1 (T k).2.2.1 host ∈ zw_NS) (hpd : parseFieldDescriptor (T k).2.2.1 = some ty) (hn : narrow ty v = v) (hfit : fits ty v = true) (hlf : k < fs.length) (hdg : decode cc pc = .ok (.putfield index, 3))
    (kk : ∀ (H1 : Heap) (locs1 : List Loc), va_P G.1 zw_cl (zw_l B n (va_up f x (.inr (ci, fs.set k v)))) H1 → va_S A H0 H1 locs1 → W p l e R s m args below meth c H1 locs1 cells slots Q (F0 m (pc + 3) ls rest)) : W p l e R s m args below meth c H locs cells slots Q (F0 m pc ls (v :: .ref (B + x) :: rest)) :=
  va_putN F.1 F.2.1 F.2.2.2.2 hin ty0 hty hnm F.2.2.2.1 hE.1 hP (zw_D hA) hS x (by rw [zw_get hx, he]) hc k hk (va_Nw.use rfl (hE.2 _ hl)) (fun z hz => by rw [hd] at hz; exact hz) hfin hpd hn hfit hlf hdg (fun H1 locs1 h1 _ h3 => kk H1 locs1 (by rw [zw_set] at h1; exact h1) h3)
/-- arrays, at a place that is a number -/
theorem zw_iald {N : Nat} {g : Nat → Int32} (F : CallFix p m c cc nL s args zw_WS own) (hE : zw_E G s) (hP : va_P G.1 zw_cl (zw_l B n f) H) {x : Nat} (hx : x < n) (he : f x = .inl (G.2 0, N, .inl g)) {k : Nat} (hk : k < N) (hN : N < 2 ^ 31) (hdg : decode cc pc = .ok (.iaload, 1))
    (kk : W p l e R s m args below meth c H locs cells slots Q (F0 m (pc + 1) ls (.int (g k) :: rest))) : W p l e R s m args below meth c H locs cells slots Q (F0 m pc ls (.int (nI k) :: .ref (B + x) :: rest)) :=
  va_iald F.1 F.2.1 hE.1 hP x 0 (by rw [zw_get hx, he]) rfl (vp_in_nI hk hN) hdg (by rw [nI_clamp (Nat.lt_trans hk hN)]; exact kk)
theorem zw_zald {N : Nat} {g : Nat → Int32} (F : CallFix p m c cc nL s args zw_WS own) (hE : zw_E G s) (hP : va_P G.1 zw_cl (zw_l B n f) H) {x : Nat} (hx : x < n) (he : f x = .inl (G.2 1, N, .inl g)) {k : Nat} (hk : k < N) (hN : N < 2 ^ 31) (hdg : decode cc pc = .ok (.baload, 1))
    (kk : W p l e R s m args below meth c H locs cells slots Q (F0 m (pc + 1) ls (.int (g k) :: rest))) : W p l e R s m args below meth c H locs cells slots Q (F0 m pc ls (.int (nI k) :: .ref (B + x) :: rest)) :=
  va_zald F.1 F.2.1 hE.1 hP x 1 (by rw [zw_get hx, he]) rfl (vp_in_nI hk hN) hdg (by rw [nI_clamp (Nat.lt_trans hk hN)]; exact kk)
theorem zw_iast {N : Nat} {g : Nat → Int32} {v : Int32} (F : CallFix p m c cc nL s args zw_WS own) (hE : zw_E G s) (hP : va_P G.1 zw_cl (zw_l B n f) H) (hS : va_S A H0 H locs) (hA : ∀ q, zw_A B n q → A q) {x : Nat} (hx : x < n) (he : f x = .inl (G.2 0, N, .inl g)) {k : Nat} (hk : k < N) (hN : N < 2 ^ 31) (hdg : decode cc pc = .ok (.iastore, 1))
    (kk : ∀ (H1 : Heap) (locs1 : List Loc), va_P G.1 zw_cl (zw_l B n (va_up f x (.inl (G.2 0, N, .inl (upd g k v))))) H1 → va_S A H0 H1 locs1 → W p l e R s m args below meth c H1 locs1 cells slots Q (F0 m (pc + 1) ls rest)) : W p l e R s m args below meth c H locs cells slots Q (F0 m pc ls (.int v :: .int (nI k) :: .ref (B + x) :: rest)) :=
  va_iast F.1 F.2.1 hE.1 hP (zw_D hA) hS x 0 (by rw [zw_get hx, he]) rfl (vp_in_nI hk hN) hdg (fun H1 locs1 h1 _ h3 => kk H1 locs1 (by rw [zw_set, nI_clamp (Nat.lt_trans hk hN)] at h1; exact h1) h3)
theorem zw_zast {N : Nat} {g : Nat → Int32} {v : Int32} (F : CallFix p m c cc nL s args zw_WS own) (hE : zw_E G s) (hP : va_P G.1 zw_cl (zw_l B n f) H) (hS : va_S A H0 H locs) (hA : ∀ q, zw_A B n q → A q) {x : Nat} (hx : x < n) (he : f x = .inl (G.2 1, N, .inl g)) {k : Nat} (hk : k < N) (hN : N < 2 ^ 31) (h01 : v = 0 ∨ v = 1) (hdg : decode cc pc = .ok (.bastore, 1))
    (kk : ∀ (H1 : Heap) (locs1 : List Loc), va_P G.1 zw_cl (zw_l B n (va_up f x (.inl (G.2 1, N, .inl (upd g k v))))) H1 → va_S A H0 H1 locs1 → W p l e R s m args below meth c H1 locs1 cells slots Q (F0 m (pc + 1) ls rest)) : W p l e R s m args below meth c H locs cells slots Q (F0 m pc ls (.int v :: .int (nI k) :: .ref (B + x) :: rest)) := by
  have hv : vp_nar .boolean v = v := by rcases h01 with rfl | rfl <;> rfl
  exact va_zast F.1 F.2.1 hE.1 hP (zw_D hA) hS x 1 (by rw [zw_get hx, he]) rfl (vp_in_nI hk hN) hdg (fun H1 locs1 h1 _ h3 => kk H1 locs1 (by rw [zw_set, nI_clamp (Nat.lt_trans hk hN), hv] at h1; exact h1) h3)
/-- arrays of references -/
theorem zw_aald {N t : Nat} {g : Nat → Option Nat} {cA : ClassId} {ty : FieldType} {a : Nat} (F : CallFix p m c cc nL s args zw_WS own) (hE : zw_E G s) (hP : va_P G.1 zw_cl (zw_l B n f) H) {x : Nat} (hx : x < n) (he : f x = .inl (cA, N, .inr (.inr (.inr (.inr g))))) (ht : (zw_ty G.2)[t]? = some (cA, ty)) (hty : ty.isReference = true) {k : Nat} (hk : k < N) (hN : N < 2 ^ 31) (hg : g k = some a) (hdg : decode cc pc = .ok (.aaload, 1))
    (kk : W p l e R s m args below meth c H locs cells slots Q (F0 m (pc + 1) ls (.ref a :: rest))) : W p l e R s m args below meth c H locs cells slots Q (F0 m pc ls (.int (nI k) :: .ref (B + x) :: rest)) := by
  have hcl := nI_clamp (Nat.lt_trans hk hN)
  have hcell : H[B + x]? = some (vp_cell cA (N, .inr (.inr (.inr (.inr g))))) := hP x (B + x, .inl (cA, N, .inr (.inr (.inr (.inr g))))) (by rw [zw_get hx, he])
  refine W.aald (v := .ref a) (ty := ty) F.1 F.2.1 hcell ((hE.1.2 t _ ht).1 N (fun j => va_rf (g j))) hty (fun q => by cases q) (by show ¬ (_ ∨ (arrV _ _ _).slots.size ≤ _); rw [arrV_size]; exact nI_in hk hN) (by show (arrV _ _ _).slots[_]? = _; rw [hcl, arrV_read _ _ hk, hg]; rfl) rfl rfl hdg kk
end ZWR
/-! rows on numbers -/
section ZNR
variable {p : Program} {l : Launch} {e : Env} {R : Room} {s : State} {m : MethodId} {args : Array Value} {below : List Frame} {meth : Method} {c : Code} {H : Heap} {locs : List Loc} {cells slots : Nat} {Q : State → Prop}
variable {cc : ByteArray} {pc nL : Nat} {ls : Array Slot} {rest : List Value} {Ts : List Cond} {own : String}
theorem zn_top {x y : Int32} (h : x = y) (k : W p l e R s m args below meth c H locs cells slots Q (F0 m pc ls (.int y :: rest))) : W p l e R s m args below meth c H locs cells slots Q (F0 m pc ls (.int x :: rest)) := h ▸ k
theorem zn_top2 {x y : Int32} {w : Value} (h : x = y) (k : W p l e R s m args below meth c H locs cells slots Q (F0 m pc ls (w :: .int y :: rest))) : W p l e R s m args below meth c H locs cells slots Q (F0 m pc ls (w :: .int x :: rest)) := h ▸ k
theorem zn_iadd {a b : Nat} (F : CallFix p m c cc nL s args Ts own) (hdg : decode cc pc = .ok (.iadd, 1)) (k : W p l e R s m args below meth c H locs cells slots Q (F0 m (pc + 1) ls (.int (nI (a + b)) :: rest))) : W p l e R s m args below meth c H locs cells slots Q (F0 m pc ls (.int (nI b) :: .int (nI a) :: rest)) := lv_iadd F.1 F.2.1 hdg (by rw [nI_add]; exact k)
theorem zn_imul {a b : Nat} (F : CallFix p m c cc nL s args Ts own) (hdg : decode cc pc = .ok (.imul, 1)) (k : W p l e R s m args below meth c H locs cells slots Q (F0 m (pc + 1) ls (.int (nI (a * b)) :: rest))) : W p l e R s m args below meth c H locs cells slots Q (F0 m pc ls (.int (nI b) :: .int (nI a) :: rest)) := lv_imul F.1 F.2.1 hdg (by rw [pk_mul]; exact k)
theorem zn_isub {a b : Nat} (F : CallFix p m c cc nL s args Ts own) (hdg : decode cc pc = .ok (.isub, 1)) (h : b ≤ a) (k : W p l e R s m args below meth c H locs cells slots Q (F0 m (pc + 1) ls (.int (nI (a - b)) :: rest))) : W p l e R s m args below meth c H locs cells slots Q (F0 m pc ls (.int (nI b) :: .int (nI a) :: rest)) := lv_isub F.1 F.2.1 hdg (by rw [pk_sub h]; exact k)
theorem zn_idiv {a b : Nat} (F : CallFix p m c cc nL s args Ts own) (hdg : decode cc pc = .ok (.idiv, 1)) (ha : a < 2 ^ 31) (h0 : 0 < b) (hb : b < 2 ^ 31) (k : W p l e R s m args below meth c H locs cells slots Q (F0 m (pc + 1) ls (.int (nI (a / b)) :: rest))) : W p l e R s m args below meth c H locs cells slots Q (F0 m pc ls (.int (nI b) :: .int (nI a) :: rest)) := lv_idiv F.1 F.2.1 hdg (nI_ne0 h0 hb) (by rw [pk_div ha h0 hb]; exact k)
theorem zn_irem {a b : Nat} (F : CallFix p m c cc nL s args Ts own) (hdg : decode cc pc = .ok (.irem, 1)) (ha : a < 2 ^ 31) (h0 : 0 < b) (hb : b < 2 ^ 31) (k : W p l e R s m args below meth c H locs cells slots Q (F0 m (pc + 1) ls (.int (nI (a % b)) :: rest))) : W p l e R s m args below meth c H locs cells slots Q (F0 m pc ls (.int (nI b) :: .int (nI a) :: rest)) := lv_irem F.1 F.2.1 hdg (nI_ne0 h0 hb) (by rw [pk_rem ha h0 hb]; exact k)
theorem zn_clt {a b : Nat} {off : Int} {tgt : Nat} (F : CallFix p m c cc nL s args Ts own) (hdg : decode cc pc = .ok (.if_icmp .lt off, 3)) (ht : (pc : Int) + off = (tgt : Int)) (ha : a < 2 ^ 31) (hb : b < 2 ^ 31) (kt : a < b → W p l e R s m args below meth c H locs cells slots Q (F0 m tgt ls rest)) (kf : ¬ a < b → W p l e R s m args below meth c H locs cells slots Q (F0 m (pc + 3) ls rest)) : W p l e R s m args below meth c H locs cells slots Q (F0 m pc ls (.int (nI b) :: .int (nI a) :: rest)) := lv_icmp_lt F.1 F.2.1 hdg ht (fun h => kt ((nI_ltI ha hb).mp h)) (fun h => kf (fun q => h ((nI_ltI ha hb).mpr q)))
theorem zn_cge {a b : Nat} {off : Int} {tgt : Nat} (F : CallFix p m c cc nL s args Ts own) (hdg : decode cc pc = .ok (.if_icmp .ge off, 3)) (ht : (pc : Int) + off = (tgt : Int)) (ha : a < 2 ^ 31) (hb : b < 2 ^ 31) (kt : b ≤ a → W p l e R s m args below meth c H locs cells slots Q (F0 m tgt ls rest)) (kf : ¬ b ≤ a → W p l e R s m args below meth c H locs cells slots Q (F0 m (pc + 3) ls rest)) : W p l e R s m args below meth c H locs cells slots Q (F0 m pc ls (.int (nI b) :: .int (nI a) :: rest)) := lv_icmp_ge F.1 F.2.1 hdg ht (fun h => kt ((nI_leI hb ha).mp h)) (fun h => kf (fun q => h ((nI_leI hb ha).mpr q)))
theorem zn_cgt {a b : Nat} {off : Int} {tgt : Nat} (F : CallFix p m c cc nL s args Ts own) (hdg : decode cc pc = .ok (.if_icmp .gt off, 3)) (ht : (pc : Int) + off = (tgt : Int)) (ha : a < 2 ^ 31) (hb : b < 2 ^ 31) (kt : b < a → W p l e R s m args below meth c H locs cells slots Q (F0 m tgt ls rest)) (kf : ¬ b < a → W p l e R s m args below meth c H locs cells slots Q (F0 m (pc + 3) ls rest)) : W p l e R s m args below meth c H locs cells slots Q (F0 m pc ls (.int (nI b) :: .int (nI a) :: rest)) := lv_icmp_gt F.1 F.2.1 hdg ht (fun h => kt ((nI_ltI hb ha).mp h)) (fun h => kf (fun q => h ((nI_ltI hb ha).mpr q)))
theorem zn_cle {a b : Nat} {off : Int} {tgt : Nat} (F : CallFix p m c cc nL s args Ts own) (hdg : decode cc pc = .ok (.if_icmp .le off, 3)) (ht : (pc : Int) + off = (tgt : Int)) (ha : a < 2 ^ 31) (hb : b < 2 ^ 31) (kt : a ≤ b → W p l e R s m args below meth c H locs cells slots Q (F0 m tgt ls rest)) (kf : ¬ a ≤ b → W p l e R s m args below meth c H locs cells slots Q (F0 m (pc + 3) ls rest)) : W p l e R s m args below meth c H locs cells slots Q (F0 m pc ls (.int (nI b) :: .int (nI a) :: rest)) := lv_icmp_le F.1 F.2.1 hdg ht (fun h => kt ((nI_leI ha hb).mp h)) (fun h => kf (fun q => h ((nI_leI ha hb).mpr q)))
theorem zn_ceq {a b : Nat} {off : Int} {tgt : Nat} (F : CallFix p m c cc nL s args Ts own) (hdg : decode cc pc = .ok (.if_icmp .eq off, 3)) (ht : (pc : Int) + off = (tgt : Int)) (ha : a < 2 ^ 31) (hb : b < 2 ^ 31) (kt : a = b → W p l e R s m args below meth c H locs cells slots Q (F0 m tgt ls rest)) (kf : ¬ a = b → W p l e R s m args below meth c H locs cells slots Q (F0 m (pc + 3) ls rest)) : W p l e R s m args below meth c H locs cells slots Q (F0 m pc ls (.int (nI b) :: .int (nI a) :: rest)) := lv_icmp_eq F.1 F.2.1 hdg ht (fun h => kt ((nI_eq ha hb).mp h)) (fun h => kf (fun q => h ((nI_eq ha hb).mpr q)))
theorem zn_cne {a b : Nat} {off : Int} {tgt : Nat} (F : CallFix p m c cc nL s args Ts own) (hdg : decode cc pc = .ok (.if_icmp .ne off, 3)) (ht : (pc : Int) + off = (tgt : Int)) (ha : a < 2 ^ 31) (hb : b < 2 ^ 31) (kt : ¬ a = b → W p l e R s m args below meth c H locs cells slots Q (F0 m tgt ls rest)) (kf : a = b → W p l e R s m args below meth c H locs cells slots Q (F0 m (pc + 3) ls rest)) : W p l e R s m args below meth c H locs cells slots Q (F0 m pc ls (.int (nI b) :: .int (nI a) :: rest)) := lv_icmp_ne F.1 F.2.1 hdg ht (fun h => kt (fun q => h ((nI_eq ha hb).mpr q))) (fun h => kf ((nI_eq ha hb).mp h))
def zn_b (q : Prop) [Decidable q] : Int32 := if q then 1 else 0
theorem zn_b1 {q : Prop} [Decidable q] (h : q) : zn_b q = 1 := if_pos h
theorem zn_b0 {q : Prop} [Decidable q] (h : ¬ q) : zn_b q = 0 := if_neg h
theorem zn_b01 (q : Prop) [Decidable q] : zn_b q = 0 ∨ zn_b q = 1 := by
  by_cases h : q
  · exact Or.inr (zn_b1 h)
  · exact Or.inl (zn_b0 h)
theorem zn_beq (F : CallFix p m c cc nL s args Ts own) {q : Prop} [Decidable q] {off : Int} {tgt : Nat} (hdg : decode cc pc = .ok (.ifCond .eq off, 3)) (ht : (pc : Int) + off = (tgt : Int)) (kt : ¬ q → W p l e R s m args below meth c H locs cells slots Q (F0 m tgt ls rest)) (kf : q → W p l e R s m args below meth c H locs cells slots Q (F0 m (pc + 3) ls rest)) : W p l e R s m args below meth c H locs cells slots Q (F0 m pc ls (.int (zn_b q) :: rest)) := by
  refine lv_if_eq F.1 F.2.1 hdg ht (fun h => kt (fun z => ?_)) (fun h => kf ?_)
  · rw [zn_b1 z] at h
    exact absurd h (by decide)
  · by_cases z : q
    · exact z
    · exact absurd (zn_b0 z) h
theorem zn_bne (F : CallFix p m c cc nL s args Ts own) {q : Prop} [Decidable q] {off : Int} {tgt : Nat} (hdg : decode cc pc = .ok (.ifCond .ne off, 3)) (ht : (pc : Int) + off = (tgt : Int)) (kt : q → W p l e R s m args below meth c H locs cells slots Q (F0 m tgt ls rest)) (kf : ¬ q → W p l e R s m args below meth c H locs cells slots Q (F0 m (pc + 3) ls rest)) : W p l e R s m args below meth c H locs cells slots Q (F0 m pc ls (.int (zn_b q) :: rest)) := by
  refine lv_if_ne F.1 F.2.1 hdg ht (fun h => kt ?_) (fun h => kf (fun z => ?_))
  · by_cases z : q
    · exact z
    · exact absurd (zn_b0 z) h
  · rw [zn_b1 z] at h
    exact absurd h (by decide)
end ZNR
end
section
/-! the states, and the pictures of the two systems' cells -/
abbrev zs_S : Type := Nat → Nat → Nat → Nat → Int32
def zs_u (S : zs_S) (t i j k : Nat) (v : Int32) : zs_S := fun t' i' j' k' => if t' = t ∧ i' = i ∧ j' = j ∧ k' = k then v else S t' i' j' k'
theorem zs_us {S : zs_S} {t i j k : Nat} {v : Int32} : zs_u S t i j k v t i j k = v := by simp [zs_u]
theorem zs_un {S : zs_S} {t i j k t' i' j' k' : Nat} {v : Int32} (h : ¬ (t' = t ∧ i' = i ∧ j' = j ∧ k' = k)) : zs_u S t i j k v t' i' j' k' = S t' i' j' k' := by simp only [zs_u, if_neg h]
theorem zs_ut {S : zs_S} {t i j k t' i' j' k' : Nat} {v : Int32} (h : ¬ t' = t) : zs_u S t i j k v t' i' j' k' = S t' i' j' k' := zs_un (fun q => h q.1)
theorem zs_uk {S : zs_S} {t i j k t' i' j' k' : Nat} {v : Int32} (h : ¬ k' = k) : zs_u S t i j k v t' i' j' k' = S t' i' j' k' := zs_un (fun q => h q.2.2.2)
theorem zs_ucell {S : zs_S} {t i j k : Nat} {v : Int32} : zs_u S t i j k v t i j = upd (S t i j) k v := by
  funext k'
  by_cases h : k' = k
  · subst h
    rw [zs_us, pk_us]
  · rw [zs_uk h, pk_un h]
theorem zs_uother {S : zs_S} {t i j k t' i' j' : Nat} {v : Int32} (h : ¬ (t' = t ∧ i' = i ∧ j' = j)) : zs_u S t i j k v t' i' j' = S t' i' j' := by
  funext k'
  exact zs_un (fun q => h ⟨q.1, q.2.1, q.2.2.1⟩)
abbrev zs_T : Type := Nat → Nat → Int32
def zs_w (T : zs_T) (x k : Nat) (v : Int32) : zs_T := fun x' k' => if x' = x ∧ k' = k then v else T x' k'
theorem zs_ws {T : zs_T} {x k : Nat} {v : Int32} : zs_w T x k v x k = v := by simp [zs_w]
theorem zs_wn {T : zs_T} {x k x' k' : Nat} {v : Int32} (h : ¬ (x' = x ∧ k' = k)) : zs_w T x k v x' k' = T x' k' := by simp only [zs_w, if_neg h]
theorem zs_wx {T : zs_T} {x k x' k' : Nat} {v : Int32} (h : ¬ x' = x) : zs_w T x k v x' k' = T x' k' := zs_wn (fun q => h q.1)
theorem zs_wk {T : zs_T} {x k x' k' : Nat} {v : Int32} (h : ¬ k' = k) : zs_w T x k v x' k' = T x' k' := zs_wn (fun q => h q.2)
theorem zs_wcell {T : zs_T} {x k : Nat} {v : Int32} : zs_w T x k v x = upd (T x) k v := by
  funext k'
  by_cases h : k' = k
  · subst h
    rw [zs_ws, pk_us]
  · rw [zs_wk h, pk_un h]
theorem zs_wother {T : zs_T} {x k x' : Nat} {v : Int32} (h : ¬ x' = x) : zs_w T x k v x' = T x' := by
  funext k'
  exact zs_wx h
/-- where a cell of the class lies: its kind, its ledger, its number there -/
def zp_o (t i j : Nat) : Nat := match t with
  | 0 => 0
  | 1 => 1
  | 2 => 2 + 87 * i
  | 3 => 3 + 87 * i + (if j = 0 then 0 else 17 + 3 * j)
  | 4 => 4 + 87 * i + (if j = 0 then 0 else 17 + 3 * j)
  | 5 => 5 + 87 * i + (if j = 0 then 0 else 17 + 3 * j)
  | 6 => 6 + 87 * i
  | 7 => 7 + 87 * i
  | 8 => 8 + 87 * i
  | 9 => 9 + 87 * i
  | 10 => 10 + 87 * i
  | 11 => 11 + 87 * i
  | 12 => 12 + 87 * i + j
  | 13 => 16 + 87 * i
  | 14 => 17 + 87 * i + j
  | 15 => 20 + 87 * i
  | 16 => 21 + 87 * i
  | 17 => 22 + 87 * i
  | 18 => 47 + 87 * i + 14 * j
  | 19 => 48 + 87 * i + 14 * j
  | _ => 49 + 87 * i + 14 * (j / 12) + j % 12
def zp_ni (t : Nat) : Nat := match t with
  | 0 => 1
  | 1 => 1
  | _ => 2
def zp_nj (t : Nat) : Nat := match t with
  | 3 => 9
  | 4 => 9
  | 5 => 9
  | 12 => 4
  | 14 => 3
  | 18 => 3
  | 19 => 3
  | 20 => 36
  | _ => 1
def zp_k (t i j : Nat) : Prop := t < 21 ∧ i < zp_ni t ∧ j < zp_nj t
def zp_d (x : Nat) : Nat × Nat × Nat :=
  if x < 2 then (x, 0, 0) else
  if (x - 2) % 87 < 10 then (2 + (x - 2) % 87, (x - 2) / 87, 0) else
  if (x - 2) % 87 < 14 then (12, (x - 2) / 87, (x - 2) % 87 - 10) else
  if (x - 2) % 87 < 15 then (13, (x - 2) / 87, 0) else
  if (x - 2) % 87 < 18 then (14, (x - 2) / 87, (x - 2) % 87 - 15) else
  if (x - 2) % 87 < 21 then ((x - 2) % 87 - 3, (x - 2) / 87, 0) else
  if (x - 2) % 87 < 45 then (3 + ((x - 2) % 87 - 21) % 3, (x - 2) / 87, 1 + ((x - 2) % 87 - 21) / 3) else
  if ((x - 2) % 87 - 45) % 14 < 2 then (18 + ((x - 2) % 87 - 45) % 14, (x - 2) / 87, ((x - 2) % 87 - 45) / 14) else
  (20, (x - 2) / 87, 12 * (((x - 2) % 87 - 45) / 14) + (((x - 2) % 87 - 45) % 14 - 2))
theorem zp_do0 : ∀ t, t < 21 → ∀ i, i < zp_ni t → ∀ j, j < zp_nj t → zp_d (zp_o t i j) = (t, i, j) ∧ zp_o t i j < 176 := by decide +kernel
theorem zp_od : ∀ x, x < 176 → zp_o (zp_d x).1 (zp_d x).2.1 (zp_d x).2.2 = x := by decide +kernel
theorem zp_do {t i j : Nat} (h : zp_k t i j) : zp_d (zp_o t i j) = (t, i, j) := (zp_do0 t h.1 i h.2.1 j h.2.2).1
theorem zp_lt {t i j : Nat} (h : zp_k t i j) : zp_o t i j < 176 := (zp_do0 t h.1 i h.2.1 j h.2.2).2
/-- a cell of the class: numbers g, references that never change; G.2: the classes of arrays -/
def zp_c (G : zw_G) (B t i j : Nat) (g : Nat → Int32) : va_E := match t with
  | 0 => .inr (0, [.int (g 0), .ref (B + zp_o 1 0 0)])
  | 1 => .inl (G.2 2, 2, .inr (.inr (.inr (.inr (fun k => some (B + zp_o 2 k 0))))))
  | 2 => .inr (1, [.ref (B + zp_o 3 i 0), .ref (B + zp_o 6 i 0), .ref (B + zp_o 7 i 0), .ref (B + zp_o 8 i 0), .ref (B + zp_o 10 i 0), .ref (B + zp_o 17 i 0), .int (g 0)])
  | 3 => .inr (2, [.ref (B + zp_o 4 i j), .ref (B + zp_o 5 i j)])
  | 4 => .inl (G.2 0, 114, .inl g)
  | 5 => .inl (G.2 1, 114, .inl g)
  | 6 => .inl (G.2 3, 8, .inr (.inr (.inr (.inr (fun k => some (B + zp_o 3 i (k + 1)))))))
  | 7 => .inl (G.2 0, 114, .inl g)
  | 8 => .inr (3, [.ref (B + zp_o 9 i 0), .int (g 0)])
  | 9 => .inl (G.2 1, 513, .inl g)
  | 10 => .inr (4, [.ref (B + zp_o 11 i 0), .ref (B + zp_o 13 i 0), .ref (B + zp_o 15 i 0), .ref (B + zp_o 16 i 0), .int (g 0)])
  | 11 => .inl (G.2 6, 4, .inr (.inr (.inr (.inr (fun k => some (B + zp_o 12 i k))))))
  | 12 => .inl (G.2 0, 6, .inl g)
  | 13 => .inl (G.2 6, 3, .inr (.inr (.inr (.inr (fun k => some (B + zp_o 14 i k))))))
  | 14 => .inl (G.2 0, 6, .inl g)
  | 15 => .inl (G.2 0, 6, .inl g)
  | 16 => .inl (G.2 0, 6, .inl g)
  | 17 => .inl (G.2 4, 3, .inr (.inr (.inr (.inr (fun k => some (B + zp_o 18 i k))))))
  | 18 => .inr (5, [.ref (B + zp_o 19 i j), .int (g 0), .int (g 1)])
  | 19 => .inl (G.2 5, 12, .inr (.inr (.inr (.inr (fun k => some (B + zp_o 20 i (12 * j + k)))))))
  | _ => .inr (6, [.int (g 0), .int (g 1), .int (g 2), .int (g 3), .int (g 4), .int (g 5), .int (g 6)])
def zp_p (G : zw_G) (B : Nat) (S : zs_S) (x : Nat) : va_E := zp_c G B (zp_d x).1 (zp_d x).2.1 (zp_d x).2.2 (S (zp_d x).1 (zp_d x).2.1 (zp_d x).2.2)
theorem zp_at {G : zw_G} {B : Nat} {S : zs_S} {t i j : Nat} (h : zp_k t i j) : zp_p G B S (zp_o t i j) = zp_c G B t i j (S t i j) := by
  unfold zp_p
  rw [zp_do h]
theorem zp_up {G : zw_G} {B : Nat} {S : zs_S} {t i j k : Nat} {v : Int32} (h : zp_k t i j) : zw_l B 176 (va_up (zp_p G B S) (zp_o t i j) (zp_c G B t i j (upd (S t i j) k v))) = zw_l B 176 (zp_p G B (zs_u S t i j k v)) := by
  apply zw_cg
  intro x hx
  by_cases e : x = zp_o t i j
  · subst e
    rw [va_up_self, zp_at h, zs_ucell]
  · rw [va_up_ne _ _ e]
    unfold zp_p
    rw [zs_uother]
    intro q
    apply e
    rw [← zp_od x hx, q.1, q.2.1, q.2.2]
/-- the reference: one object, 25 arrays -/
def zq_n (x : Nat) : Nat := match x with
  | 1 => 2
  | 2 => 2200
  | 3 => 2
  | 4 => 16
  | 5 => 2048
  | 6 => 2048
  | 7 => 6
  | 8 => 6
  | 9 => 6
  | 10 => 6
  | 11 => 6
  | 12 => 78
  | 13 => 78
  | 14 => 78
  | 15 => 78
  | 16 => 78
  | 17 => 78
  | 18 => 78
  | 19 => 48
  | 20 => 36
  | 21 => 2
  | 22 => 12
  | 23 => 12
  | _ => 16
def zq_c (G : zw_G) (B x : Nat) (g : Nat → Int32) : va_E := match x with
  | 0 => .inr (7, [.int (g 0), .ref (B + 1), .ref (B + 2), .ref (B + 3), .ref (B + 4), .ref (B + 5), .ref (B + 6), .ref (B + 7), .ref (B + 8), .ref (B + 9), .ref (B + 10), .ref (B + 11), .ref (B + 12), .ref (B + 13), .ref (B + 14), .ref (B + 15), .ref (B + 16), .ref (B + 17), .ref (B + 18), .ref (B + 19), .ref (B + 20), .ref (B + 21), .ref (B + 22), .ref (B + 23), .ref (B + 24), .ref (B + 25)])
  | 2 => .inl (G.2 1, 2200, .inl g)
  | 8 => .inl (G.2 1, 6, .inl g)
  | x => .inl (G.2 0, zq_n x, .inl g)
def zq_p (G : zw_G) (B : Nat) (T : zs_T) (x : Nat) : va_E := zq_c G B x (T x)
theorem zq_up {G : zw_G} {B : Nat} {T : zs_T} {x k : Nat} {v : Int32} : zw_l B 26 (va_up (zq_p G B T) x (zq_c G B x (upd (T x) k v))) = zw_l B 26 (zq_p G B (zs_w T x k v)) := by
  apply zw_cg
  intro z _
  by_cases e : z = x
  · subst e
    rw [va_up_self]
    unfold zq_p
    rw [zs_wcell]
  · rw [va_up_ne _ _ e]
    unfold zq_p
    rw [zs_wother e]
end
section
/-! rows over the class's picture (zc_) and over the reference's (zm_) -/
section ZCR
variable {p : Program} {l : Launch} {e : Env} {R : Room} {s : State} {m : MethodId} {args : Array Value} {below : List Frame} {meth : Method} {c : Code} {H : Heap} {locs : List Loc} {cells slots : Nat} {Q : State → Prop}
variable {cc : ByteArray} {pc nL index : Nat} {ls : Array Slot} {rest : List Value} {A : Nat → Prop} {H0 : Heap} {G : zw_G} {B : Nat} {S : zs_S} {T : zs_T} {own : String}
theorem zc_gF {C : String} {Tb : u_T} {N ci t i j : Nat} {fs : List Value} {v : Value} (F : CallFix p m c cc nL s args zw_WS own) (hE : zw_E G s) (hP : va_P G.1 zw_cl (zw_l B 176 (zp_p G B S)) H) (h : zp_k t i j) (he : zp_c G B t i j (S t i j) = .inr (ci, fs)) (hc : zw_cl[ci]? = some (C, Tb, N)) (hin : ∀ w ∈ u_ws C Tb N, w ∈ zw_WS) (k : Nat) (hk : k < N) (hd : (Tb k).1 = C) (hl : Cond.fieldLink own index C (Tb k).2.1 (Tb k).2.2.1 ∈ zw_WS) (hv : fs[k]? = some v) (hdg : decode cc pc = .ok (.getfield index, 3))
    (kk : W p l e R s m args below meth c H locs cells slots Q (F0 m (pc + 3) ls (v :: rest))) : W p l e R s m args below meth c H locs cells slots Q (F0 m pc ls (.ref (B + zp_o t i j) :: rest)) := zw_gF F hE hP (zp_lt h) ((zp_at h).trans he) hc hin k hk hd hl hv hdg kk
theorem zc_gN {C host : String} {Tb : u_T} {N ci t i j : Nat} {fs : List Value} {v : Value} (F : CallFix p m c cc nL s args zw_WS own) (hE : zw_E G s) (hP : va_P G.1 zw_cl (zw_l B 176 (zp_p G B S)) H) (h : zp_k t i j) (he : zp_c G B t i j (S t i j) = .inr (ci, fs)) (hc : zw_cl[ci]? = some (C, Tb, N)) (hin : ∀ w ∈ u_ws C Tb N, w ∈ zw_WS) (k : Nat) (hk : k < N) (hd : (Tb k).1 = C) (hl : Cond.fieldLinkNest own index C (Tb k).2.1 (Tb k).2.2.1 host ∈ zw_NS) (hv : fs[k]? = some v) (hdg : decode cc pc = .ok (.getfield index, 3))
    (kk : W p l e R s m args below meth c H locs cells slots Q (F0 m (pc + 3) ls (v :: rest))) : W p l e R s m args below meth c H locs cells slots Q (F0 m pc ls (.ref (B + zp_o t i j) :: rest)) := zw_gN F hE hP (zp_lt h) ((zp_at h).trans he) hc hin k hk hd hl hv hdg kk
theorem zc_pF {C : String} {Tb : u_T} {N ci t i j kf : Nat} {fs : List Value} {v : Int32} (F : CallFix p m c cc nL s args zw_WS own) (hE : zw_E G s) (hP : va_P G.1 zw_cl (zw_l B 176 (zp_p G B S)) H) (hS : va_S A H0 H locs) (hA : ∀ q, zw_A B 176 q → A q) (h : zp_k t i j) (he : zp_c G B t i j (S t i j) = .inr (ci, fs)) (hc : zw_cl[ci]? = some (C, Tb, N)) (hin : ∀ w ∈ u_ws C Tb N, w ∈ zw_WS) (ty0 : Nat → FieldType) (hty : ∀ k, k < N → parseFieldDescriptor (Tb k).2.2.1 = some (ty0 k)) (hnm : ∀ a, a < N → ∀ b, b < N → a ≠ b → (Tb a).2.1 ≠ (Tb b).2.1) (k : Nat) (hk : k < N) (hd : (Tb k).1 = C) (hfin : (Tb k).2.2.2 = false) (hl : Cond.fieldLink own index C (Tb k).2.1 (Tb k).2.2.1 ∈ zw_WS) (hpd : parseFieldDescriptor (Tb k).2.2.1 = some .int) (hlf : k < fs.length) (hset : (Sum.inr (ci, fs.set k (.int v)) : va_E) = zp_c G B t i j (upd (S t i j) kf v)) (hdg : decode cc pc = .ok (.putfield index, 3))
    (kk : ∀ (H1 : Heap) (locs1 : List Loc), va_P G.1 zw_cl (zw_l B 176 (zp_p G B (zs_u S t i j kf v))) H1 → va_S A H0 H1 locs1 → W p l e R s m args below meth c H1 locs1 cells slots Q (F0 m (pc + 3) ls rest)) : W p l e R s m args below meth c H locs cells slots Q (F0 m pc ls (.int v :: .ref (B + zp_o t i j) :: rest)) :=
  zw_pF F hE hP hS hA (zp_lt h) ((zp_at h).trans he) hc hin ty0 hty hnm k hk hd hfin hl hpd rfl rfl hlf hdg (fun H1 locs1 h1 h2 => kk H1 locs1 (by rw [hset, zp_up h] at h1; exact h1) h2)
theorem zc_pN {C host : String} {Tb : u_T} {N ci t i j kf : Nat} {fs : List Value} {v : Int32} (F : CallFix p m c cc nL s args zw_WS own) (hE : zw_E G s) (hP : va_P G.1 zw_cl (zw_l B 176 (zp_p G B S)) H) (hS : va_S A H0 H locs) (hA : ∀ q, zw_A B 176 q → A q) (h : zp_k t i j) (he : zp_c G B t i j (S t i j) = .inr (ci, fs)) (hc : zw_cl[ci]? = some (C, Tb, N)) (hin : ∀ w ∈ u_ws C Tb N, w ∈ zw_WS) (ty0 : Nat → FieldType) (hty : ∀ k, k < N → parseFieldDescriptor (Tb k).2.2.1 = some (ty0 k)) (hnm : ∀ a, a < N → ∀ b, b < N → a ≠ b → (Tb a).2.1 ≠ (Tb b).2.1) (k : Nat) (hk : k < N) (hd : (Tb k).1 = C) (hfin : (Tb k).2.2.2 = false) (hl : Cond.fieldLinkNest own index C (Tb k).2.1 (Tb k).2.2.1 host ∈ zw_NS) (hpd : parseFieldDescriptor (Tb k).2.2.1 = some .int) (hlf : k < fs.length) (hset : (Sum.inr (ci, fs.set k (.int v)) : va_E) = zp_c G B t i j (upd (S t i j) kf v)) (hdg : decode cc pc = .ok (.putfield index, 3))
    (kk : ∀ (H1 : Heap) (locs1 : List Loc), va_P G.1 zw_cl (zw_l B 176 (zp_p G B (zs_u S t i j kf v))) H1 → va_S A H0 H1 locs1 → W p l e R s m args below meth c H1 locs1 cells slots Q (F0 m (pc + 3) ls rest)) : W p l e R s m args below meth c H locs cells slots Q (F0 m pc ls (.int v :: .ref (B + zp_o t i j) :: rest)) :=
  zw_pN F hE hP hS hA (zp_lt h) ((zp_at h).trans he) hc hin ty0 hty hnm k hk hd hfin hl hpd rfl rfl hlf hdg (fun H1 locs1 h1 h2 => kk H1 locs1 (by rw [hset, zp_up h] at h1; exact h1) h2)
theorem zc_iald {t i j k N : Nat} (F : CallFix p m c cc nL s args zw_WS own) (hE : zw_E G s) (hP : va_P G.1 zw_cl (zw_l B 176 (zp_p G B S)) H) (h : zp_k t i j) (he : ∀ g, zp_c G B t i j g = .inl (G.2 0, N, .inl g)) (hk : k < N) (hN : N < 2 ^ 31) (hdg : decode cc pc = .ok (.iaload, 1))
    (kk : W p l e R s m args below meth c H locs cells slots Q (F0 m (pc + 1) ls (.int (S t i j k) :: rest))) : W p l e R s m args below meth c H locs cells slots Q (F0 m pc ls (.int (nI k) :: .ref (B + zp_o t i j) :: rest)) := zw_iald F hE hP (zp_lt h) ((zp_at h).trans (he _)) hk hN hdg kk
theorem zc_zald {t i j k N : Nat} (F : CallFix p m c cc nL s args zw_WS own) (hE : zw_E G s) (hP : va_P G.1 zw_cl (zw_l B 176 (zp_p G B S)) H) (h : zp_k t i j) (he : ∀ g, zp_c G B t i j g = .inl (G.2 1, N, .inl g)) (hk : k < N) (hN : N < 2 ^ 31) (hdg : decode cc pc = .ok (.baload, 1))
    (kk : W p l e R s m args below meth c H locs cells slots Q (F0 m (pc + 1) ls (.int (S t i j k) :: rest))) : W p l e R s m args below meth c H locs cells slots Q (F0 m pc ls (.int (nI k) :: .ref (B + zp_o t i j) :: rest)) := zw_zald F hE hP (zp_lt h) ((zp_at h).trans (he _)) hk hN hdg kk
theorem zc_iast {t i j k N : Nat} {v : Int32} (F : CallFix p m c cc nL s args zw_WS own) (hE : zw_E G s) (hP : va_P G.1 zw_cl (zw_l B 176 (zp_p G B S)) H) (hS : va_S A H0 H locs) (hA : ∀ q, zw_A B 176 q → A q) (h : zp_k t i j) (he : ∀ g, zp_c G B t i j g = .inl (G.2 0, N, .inl g)) (hk : k < N) (hN : N < 2 ^ 31) (hdg : decode cc pc = .ok (.iastore, 1))
    (kk : ∀ (H1 : Heap) (locs1 : List Loc), va_P G.1 zw_cl (zw_l B 176 (zp_p G B (zs_u S t i j k v))) H1 → va_S A H0 H1 locs1 → W p l e R s m args below meth c H1 locs1 cells slots Q (F0 m (pc + 1) ls rest)) : W p l e R s m args below meth c H locs cells slots Q (F0 m pc ls (.int v :: .int (nI k) :: .ref (B + zp_o t i j) :: rest)) :=
  zw_iast F hE hP hS hA (zp_lt h) ((zp_at h).trans (he _)) hk hN hdg (fun H1 locs1 h1 h2 => kk H1 locs1 (by rw [← he, zp_up h] at h1; exact h1) h2)
theorem zc_zast {t i j k N : Nat} {v : Int32} (F : CallFix p m c cc nL s args zw_WS own) (hE : zw_E G s) (hP : va_P G.1 zw_cl (zw_l B 176 (zp_p G B S)) H) (hS : va_S A H0 H locs) (hA : ∀ q, zw_A B 176 q → A q) (h : zp_k t i j) (he : ∀ g, zp_c G B t i j g = .inl (G.2 1, N, .inl g)) (hk : k < N) (hN : N < 2 ^ 31) (h01 : v = 0 ∨ v = 1) (hdg : decode cc pc = .ok (.bastore, 1))
    (kk : ∀ (H1 : Heap) (locs1 : List Loc), va_P G.1 zw_cl (zw_l B 176 (zp_p G B (zs_u S t i j k v))) H1 → va_S A H0 H1 locs1 → W p l e R s m args below meth c H1 locs1 cells slots Q (F0 m (pc + 1) ls rest)) : W p l e R s m args below meth c H locs cells slots Q (F0 m pc ls (.int v :: .int (nI k) :: .ref (B + zp_o t i j) :: rest)) :=
  zw_zast F hE hP hS hA (zp_lt h) ((zp_at h).trans (he _)) hk hN h01 hdg (fun H1 locs1 h1 h2 => kk H1 locs1 (by rw [← he, zp_up h] at h1; exact h1) h2)
theorem zc_aald {t i j k N z : Nat} {g : Nat → Option Nat} {cA : ClassId} {ty : FieldType} {a : Nat} (F : CallFix p m c cc nL s args zw_WS own) (hE : zw_E G s) (hP : va_P G.1 zw_cl (zw_l B 176 (zp_p G B S)) H) (h : zp_k t i j) (he : zp_c G B t i j (S t i j) = .inl (cA, N, .inr (.inr (.inr (.inr g))))) (ht : (zw_ty G.2)[z]? = some (cA, ty)) (hty : ty.isReference = true) (hk : k < N) (hN : N < 2 ^ 31) (hg : g k = some a) (hdg : decode cc pc = .ok (.aaload, 1))
    (kk : W p l e R s m args below meth c H locs cells slots Q (F0 m (pc + 1) ls (.ref a :: rest))) : W p l e R s m args below meth c H locs cells slots Q (F0 m pc ls (.int (nI k) :: .ref (B + zp_o t i j) :: rest)) := zw_aald F hE hP (zp_lt h) ((zp_at h).trans he) ht hty hk hN hg hdg kk
theorem zc_recv {t i j ci : Nat} {fs : List Value} {q : vw_C} (hE : zw_E G s) (hP : va_P G.1 zw_cl (zw_l B 176 (zp_p G B S)) H) (h : zp_k t i j) (he : zp_c G B t i j (S t i j) = .inr (ci, fs)) (hc : zw_cl[ci]? = some q) : ∃ cellB : Cell, H[B + zp_o t i j]? = some cellB ∧ cellB.vm.isStatics = false ∧ s.vm.findClass q.1 = some cellB.cls := zw_recv hE hP (zp_lt h) ((zp_at h).trans he) hc
/-! the reference -/
theorem zm_gF {C : String} {Tb : u_T} {N : Nat} {fs : List Value} {v : Value} (F : CallFix p m c cc nL s args zw_WS own) (hE : zw_E G s) (hP : va_P G.1 zw_cl (zw_l B 26 (zq_p G B T)) H) (he : zq_c G B 0 (T 0) = .inr (7, fs)) (hc : zw_cl[7]? = some (C, Tb, N)) (hin : ∀ w ∈ u_ws C Tb N, w ∈ zw_WS) (k : Nat) (hk : k < N) (hd : (Tb k).1 = C) (hl : Cond.fieldLink own index C (Tb k).2.1 (Tb k).2.2.1 ∈ zw_WS) (hv : fs[k]? = some v) (hdg : decode cc pc = .ok (.getfield index, 3))
    (kk : W p l e R s m args below meth c H locs cells slots Q (F0 m (pc + 3) ls (v :: rest))) : W p l e R s m args below meth c H locs cells slots Q (F0 m pc ls (.ref (B + 0) :: rest)) := zw_gF F hE hP (x := 0) (by decide) he hc hin k hk hd hl hv hdg kk
theorem zm_iald {x k N : Nat} (F : CallFix p m c cc nL s args zw_WS own) (hE : zw_E G s) (hP : va_P G.1 zw_cl (zw_l B 26 (zq_p G B T)) H) (h : x < 26) (he : ∀ g, zq_c G B x g = .inl (G.2 0, N, .inl g)) (hk : k < N) (hN : N < 2 ^ 31) (hdg : decode cc pc = .ok (.iaload, 1))
    (kk : W p l e R s m args below meth c H locs cells slots Q (F0 m (pc + 1) ls (.int (T x k) :: rest))) : W p l e R s m args below meth c H locs cells slots Q (F0 m pc ls (.int (nI k) :: .ref (B + x) :: rest)) := zw_iald F hE hP h (he _) hk hN hdg kk
theorem zm_zald {x k N : Nat} (F : CallFix p m c cc nL s args zw_WS own) (hE : zw_E G s) (hP : va_P G.1 zw_cl (zw_l B 26 (zq_p G B T)) H) (h : x < 26) (he : ∀ g, zq_c G B x g = .inl (G.2 1, N, .inl g)) (hk : k < N) (hN : N < 2 ^ 31) (hdg : decode cc pc = .ok (.baload, 1))
    (kk : W p l e R s m args below meth c H locs cells slots Q (F0 m (pc + 1) ls (.int (T x k) :: rest))) : W p l e R s m args below meth c H locs cells slots Q (F0 m pc ls (.int (nI k) :: .ref (B + x) :: rest)) := zw_zald F hE hP h (he _) hk hN hdg kk
theorem zm_iast {x k N : Nat} {v : Int32} (F : CallFix p m c cc nL s args zw_WS own) (hE : zw_E G s) (hP : va_P G.1 zw_cl (zw_l B 26 (zq_p G B T)) H) (hS : va_S A H0 H locs) (hA : ∀ q, zw_A B 26 q → A q) (h : x < 26) (he : ∀ g, zq_c G B x g = .inl (G.2 0, N, .inl g)) (hk : k < N) (hN : N < 2 ^ 31) (hdg : decode cc pc = .ok (.iastore, 1))
    (kk : ∀ (H1 : Heap) (locs1 : List Loc), va_P G.1 zw_cl (zw_l B 26 (zq_p G B (zs_w T x k v))) H1 → va_S A H0 H1 locs1 → W p l e R s m args below meth c H1 locs1 cells slots Q (F0 m (pc + 1) ls rest)) : W p l e R s m args below meth c H locs cells slots Q (F0 m pc ls (.int v :: .int (nI k) :: .ref (B + x) :: rest)) :=
  zw_iast F hE hP hS hA h (he _) hk hN hdg (fun H1 locs1 h1 h2 => kk H1 locs1 (by rw [← he, zq_up] at h1; exact h1) h2)
theorem zm_zast {x k N : Nat} {v : Int32} (F : CallFix p m c cc nL s args zw_WS own) (hE : zw_E G s) (hP : va_P G.1 zw_cl (zw_l B 26 (zq_p G B T)) H) (hS : va_S A H0 H locs) (hA : ∀ q, zw_A B 26 q → A q) (h : x < 26) (he : ∀ g, zq_c G B x g = .inl (G.2 1, N, .inl g)) (hk : k < N) (hN : N < 2 ^ 31) (h01 : v = 0 ∨ v = 1) (hdg : decode cc pc = .ok (.bastore, 1))
    (kk : ∀ (H1 : Heap) (locs1 : List Loc), va_P G.1 zw_cl (zw_l B 26 (zq_p G B (zs_w T x k v))) H1 → va_S A H0 H1 locs1 → W p l e R s m args below meth c H1 locs1 cells slots Q (F0 m (pc + 1) ls rest)) : W p l e R s m args below meth c H locs cells slots Q (F0 m pc ls (.int v :: .int (nI k) :: .ref (B + x) :: rest)) :=
  zw_zast F hE hP hS hA h (he _) hk hN h01 hdg (fun H1 locs1 h1 h2 => kk H1 locs1 (by rw [← he, zq_up] at h1; exact h1) h2)
theorem zm_recv {fs : List Value} {q : vw_C} (hE : zw_E G s) (hP : va_P G.1 zw_cl (zw_l B 26 (zq_p G B T)) H) (he : zq_c G B 0 (T 0) = .inr (7, fs)) (hc : zw_cl[7]? = some q) : ∃ cellB : Cell, H[B + 0]? = some cellB ∧ cellB.vm.isStatics = false ∧ s.vm.findClass q.1 = some cellB.cls := zw_recv (x := 0) hE hP (by decide) he hc
end ZCR
end
section
/-! words for the specs -/
def zs_mix (h x : Int32) : Int32 := (h ^^^ x) * 73244475 ^^^ (((h ^^^ x) * 73244475).toUInt32 >>> ((nI 15).toUInt32 &&& Int32.toUInt32 31)).toInt32
def zs_print (f : Nat → Int32) (x : Int32) : Int32 := zs_mix (zs_mix (zs_mix (zs_mix (zs_mix (nI 3) (f 0)) (f 1 + x)) (nI 4 * f 2 + f 3)) (f 4)) (f 5)
abbrev zs_n (x : Int32) : Nat := x.toNatClampNeg
abbrev zs_v (x : Int32) (n : Nat) : Prop := ∃ j : Nat, j < n ∧ x = nI j
abbrev zs_hd (S : zs_S) (i : Nat) (h : Int32) : Prop := ¬ h < nI 1 ∧ ¬ nI 512 < h ∧ ¬ S 9 i 0 h.toNatClampNeg = 0
abbrev zs_kp (S : zs_S) (i : Nat) (h : Int32) : Prop := ¬ h < nI 1 ∧ ¬ S 2 i 0 0 < h ∧ ¬ h ≤ S 2 i 0 0 - nI 8
abbrev zs_B (S : zs_S) : Prop := ∀ i j k, S 5 i j k = 0 ∨ S 5 i j k = 1
def zs_bb (ch ba : Nat → Int32) (k c : Nat) : Int32 := if nI k = 0 then nI 0 else (if ch k = nI c then nI 1 + ba k else nI 0)
def zs_st (v : Int32) : Int32 := v / nI 2
def zs_or (v : Int32) : Int32 := v - v / nI 2 * nI 2
def zs_nx (v : Int32) : Int32 := if nI 1 < v then v else nI 1
def zs_rc (S : zs_S) (i o : Nat) (h : Int32) : Int32 := if zs_hd S i h then (if zs_kp S o h then nI 0 else (-4)) else (-3)
def zs_pv (S : zs_S) (i o : Nat) (h : Int32) (k : Nat) (v : Int32) : Int32 := if zs_rc S i o h = 0 then (if S 5 o (h.toNatClampNeg % 8 + 1) k = 0 then (-5) else (if S 4 o (h.toNatClampNeg % 8 + 1) k = v then nI 0 else (-5))) else zs_rc S i o h
def zs_pa (S : zs_S) (i o : Nat) (h : Int32) (k : Nat) : Int32 := if zs_rc S i o h = 0 then (if S 5 o (h.toNatClampNeg % 8 + 1) k = 0 then nI 0 else (-5)) else zs_rc S i o h
/-- the voucher among k, .., k + r - 1 -/
def zs_fv (ba ch : Nat → Int32) (x y : Int32) (k : Nat) : Nat → Nat
  | 0 => 0
  | r + 1 => if ba k = x then (if ch k = y then k else zs_fv ba ch x y (k + 1) r) else zs_fv ba ch x y (k + 1) r
theorem zs_fv_le (ba ch : Nat → Int32) (x y : Int32) : ∀ (r k : Nat), zs_fv ba ch x y k r ≤ k + r - 1
  | 0, k => Nat.zero_le _
  | r + 1, k => by
    have ih := zs_fv_le ba ch x y r (k + 1)
    unfold zs_fv
    split
    · split
      · omega
      · omega
    · omega
/-- a packet's numbers are places -/
abbrev zs_PK (S : zs_S) (i j : Nat) : Prop := (S 20 i j 0 = nI (zs_n (S 20 i j 0)) ∧ zs_n (S 20 i j 0) < 6) ∧ (S 20 i j 2 = nI (zs_n (S 20 i j 2)) ∧ zs_n (S 20 i j 2) < 4) ∧ (S 20 i j 3 = nI (zs_n (S 20 i j 3)) ∧ zs_n (S 20 i j 3) < 4) ∧ (S 20 i j 5 = nI (zs_n (S 20 i j 5)) ∧ zs_n (S 20 i j 5) ≤ 6)
/-- the copy of the main store of ledger i, its first n slots, into its state j -/
def zs_cp (S : zs_S) (i j n : Nat) : zs_S := fun t i' j' k => if (t = 4 ∨ t = 5) ∧ i' = i ∧ j' = j ∧ k < n then S t i 0 k else S t i' j' k
theorem zs_cp0 {S : zs_S} {i j : Nat} : zs_cp S i j 0 = S := by
  funext t i' j' k
  simp [zs_cp]
theorem zs_cpn {S : zs_S} {i j n t i' j' k : Nat} (h4 : ¬ t = 4) (h5 : ¬ t = 5) : zs_cp S i j n t i' j' k = S t i' j' k := by
  simp [zs_cp, h4, h5]
theorem zs_cpj {S : zs_S} {i j n t i' j' k : Nat} (h : ¬ j' = j) : zs_cp S i j n t i' j' k = S t i' j' k := by
  simp [zs_cp, h]
theorem zs_cps {S : zs_S} {i j n : Nat} : zs_u (zs_u (zs_cp S i j n) 4 i j n (S 4 i 0 n)) 5 i j n (S 5 i 0 n) = zs_cp S i j (n + 1) := by
  funext t i' j' k
  by_cases h5 : t = 5 ∧ i' = i ∧ j' = j ∧ k = n
  · obtain ⟨rfl, rfl, rfl, rfl⟩ := h5
    simp [zs_u, zs_cp]
  · rw [zs_un h5]
    by_cases h4 : t = 4 ∧ i' = i ∧ j' = j ∧ k = n
    · obtain ⟨rfl, rfl, rfl, rfl⟩ := h4
      simp [zs_u, zs_cp]
    · rw [zs_un h4]
      unfold zs_cp
      by_cases h : (t = 4 ∨ t = 5) ∧ i' = i ∧ j' = j ∧ k < n
      · rw [if_pos h, if_pos ⟨h.1, h.2.1, h.2.2.1, Nat.lt_succ_of_lt h.2.2.2⟩]
      · rw [if_neg h, if_neg]
        rintro ⟨ht, hi, hj, hk⟩
        have hkn : ¬ k = n := by
          intro e
          rcases ht with rfl | rfl
          · exact h4 ⟨rfl, hi, hj, e⟩
          · exact h5 ⟨rfl, hi, hj, e⟩
        exact h ⟨ht, hi, hj, by omega⟩
theorem zs_idv {S : zs_S} {t i j k : Nat} {v : Int32} (h : S t i j k = v) : zs_u S t i j k v = S := by
  funext t' i' j' k'
  by_cases e : t' = t ∧ i' = i ∧ j' = j ∧ k' = k
  · obtain ⟨rfl, rfl, rfl, rfl⟩ := e
    rw [zs_us, h]
  · rw [zs_un e]
theorem zn_nn {p : Prop} (h : ¬ ¬ p) : p := Classical.byContradiction h
theorem zn_n0 {h : Int32} (h2 : ¬ h < nI 1) : ¬ h < 0 := fun z => h2 (Int32.lt_trans z (by decide))
theorem zn_le512 {q : Nat} (hq : q < 2 ^ 31) (h : ¬ nI 512 < nI q) : q ≤ 512 := by
  apply Nat.le_of_not_lt
  intro z
  exact h ((nI_ltI (by decide) hq).mpr z)
theorem zn_pos1 {x : Int32} {b : Nat} (h : x = nI b) (hn : ¬ x ≤ 0) : 1 ≤ b := by
  apply Nat.one_le_iff_ne_zero.mpr
  intro e
  subst e
  apply hn
  rw [h]
  decide
theorem zn_neT {x : Int32} {k : Int32} (h : ¬ x = k) : x.toInt ≠ k.toInt := fun q => h (Int32.toInt_inj.mp q)
theorem zs_vi {x : Int32} {n : Nat} (hn : n < 2 ^ 31) (h1 : ¬ x < 0) (h2 : ¬ nI n ≤ x) : zs_v x n := by
  rcases pk_ix x hn with h | h | ⟨j, hj, e⟩
  · exact absurd h h1
  · exact absurd h h2
  · exact ⟨j, hj, e⟩
theorem zs_kpq {S : zs_S} {i : Nat} {h : Int32} (z : zs_kp S i h) : ∃ q : Nat, q < 2 ^ 31 ∧ h = nI q := nI_of (zn_n0 z.1)
theorem zs_rch {S : zs_S} {i o : Nat} {h : Int32} (z : zs_rc S i o h = 0) : zs_hd S i h ∧ zs_kp S o h := by
  unfold zs_rc at z
  split at z
  · rename_i h1
    split at z
    · rename_i h2
      exact ⟨h1, h2⟩
    · exact absurd z (by decide)
  · exact absurd z (by decide)
theorem zs_rcq {S : zs_S} {i o : Nat} {h : Int32} (z : zs_rc S i o h = 0) : ∃ q : Nat, q < 2 ^ 31 ∧ h = nI q := nI_of (zn_n0 (zs_rch z).1.1)
/-- what a ledger's client learns; a new block -/
def zs_ln (S : zs_S) (i q : Nat) : zs_S := zs_u (zs_u S 9 i 0 q (nI 1)) 8 i 0 0 (if S 8 i 0 0 < nI q then nI q else S 8 i 0 0)
def zs_mb (S : zs_S) (i : Nat) : zs_S := zs_cp (zs_u S 2 i 0 0 (nI (zs_n (S 2 i 0 0) + 1))) i ((zs_n (S 2 i 0 0) + 1) % 8 + 1) 114
/-! the reference -/
theorem zs_idw {T : zs_T} {x k : Nat} {v : Int32} (h : T x k = v) : zs_w T x k v = T := by
  funext x' k'
  by_cases e : x' = x ∧ k' = k
  · obtain ⟨rfl, rfl⟩ := e
    rw [zs_ws, h]
  · rw [zs_wn e]
def zs_fl (w : Int32) : Int32 := if w = 0 then nI 0 else nI 1
/-- a key and its value are listed at ledger i's newest height -/
def zs_li (T : zs_T) (i : Nat) (y v : Int32) : zs_T := zs_w (zs_w (zs_w T 5 (128 * (8 * i + zs_n (T 1 i) % 8) + zs_n (T 4 (8 * i + zs_n (T 1 i) % 8))) y) 6 (128 * (8 * i + zs_n (T 1 i) % 8) + zs_n (T 4 (8 * i + zs_n (T 1 i) % 8))) v) 4 (8 * i + zs_n (T 1 i) % 8) (nI (zs_n (T 4 (8 * i + zs_n (T 1 i) % 8)) + 1))
def zs_mp (T : zs_T) (q : Nat) (x : Int32) : Int32 := zs_mix (zs_mix (zs_mix (zs_mix (zs_mix (nI 3) (T 12 q)) x) (T 14 q)) (T 15 q)) (T 16 q)
abbrev zs_mk (T : zs_T) (i : Nat) (h : Int32) : Prop := ¬ h < nI 1 ∧ ¬ T 1 i < h ∧ ¬ h ≤ T 1 i - nI 8
abbrev zs_mn (T : zs_T) (i : Nat) (h : Int32) : Prop := ¬ (h < nI 1 ∨ nI 1099 < h) ∧ ¬ T 2 (1100 * i + h.toNatClampNeg) = 0
abbrev zs_MP (T : zs_T) (q : Nat) : Prop := (T 12 q = nI (zs_n (T 12 q)) ∧ zs_n (T 12 q) < 6) ∧ (T 14 q = nI (zs_n (T 14 q)) ∧ zs_n (T 14 q) < 16) ∧ (T 16 q = nI (zs_n (T 16 q)) ∧ zs_n (T 16 q) ≤ 6)
def zs_jo (T : zs_T) (n : Nat) : zs_T := zs_w (zs_w T 24 (n - 2) (zs_mix (zs_mix (nI 2) (T 24 (n - 2))) (T 24 (n - 1)))) 25 (n - 2) (T 25 (n - 2) + T 25 (n - 1))
def zs_sg (x : Int32) : Int32 := (x &&& nI 1) + (x >>> (nI 1 &&& 31) &&& nI 1) + (x >>> (nI 2 &&& 31) &&& nI 1) + (x >>> (nI 3 &&& 31) &&& nI 1)
def zs_mw (T : zs_T) (i q : Nat) : zs_T := zs_w (zs_w T 2 (1100 * i + q) (nI 1)) 3 i (if nI q ≤ T 3 i then T 3 i else nI q)
def zs_mur (T : zs_T) (i : Nat) (h x w : Int32) : Int32 := if h < nI 1 ∨ T 1 (1 - i) < h then (-1) else (if w = 0 then (if nI 3 ≤ zs_sg x then nI 0 else (-6)) else (-6))
def zs_mus (T : zs_T) (i : Nat) (h x w : Int32) : zs_T := if h < nI 1 ∨ T 1 (1 - i) < h then T else (if w = 0 then (if nI 3 ≤ zs_sg x then zs_mw T i h.toNatClampNeg else T) else T)
theorem zn_ins {i a b : Nat} (h1 : a ≤ i) (h2 : i ≤ b) (hb : b < 2 ^ 31) : ¬ (nI i < nI a ∨ nI b < nI i) := by
  rintro (z | z)
  · have := (nI_ltI (by omega) (by omega)).mp z
    omega
  · have := (nI_ltI (by omega) (by omega)).mp z
    omega
theorem zn_ltle {x y : Int32} (h : y < x) (h2 : x ≤ y) : False := by
  have a := Int32.lt_iff_toInt_lt.mp h
  have b := Int32.le_iff_toInt_le.mp h2
  omega
theorem zn_nlelt {x y : Int32} (h : ¬ x ≤ y) : y < x := by
  apply Int32.lt_iff_toInt_lt.mpr
  have := mt Int32.le_iff_toInt_le.mpr h
  omega
theorem zs_vo {x : Int32} {n : Nat} (hn : n < 2 ^ 30) (h : ¬ (x < nI 0 ∨ nI n < x)) : zs_v x (n + 1) := by
  obtain ⟨j, hj, rfl⟩ := nI_of (x := x) (fun z => h (Or.inl z))
  refine ⟨j, ?_, rfl⟩
  apply Nat.lt_succ_of_le
  apply Nat.le_of_not_lt
  intro z
  exact h (Or.inr ((nI_ltI (by omega) hj).mpr z))
theorem zs_oq {x : Int32} {n : Nat} (hn : n < 2 ^ 30) (h : ¬ (x < nI 1 ∨ nI n < x)) : ∃ q : Nat, q ≤ n ∧ 1 ≤ q ∧ x = nI q := by
  obtain ⟨j, hj, rfl⟩ := nI_of (x := x) (zn_n0 (fun z => h (Or.inl z)))
  refine ⟨j, ?_, ?_, rfl⟩
  · apply Nat.le_of_not_lt
    intro z
    exact h (Or.inr ((nI_ltI (by omega) hj).mpr z))
  · apply Nat.le_of_not_lt
    intro z
    exact h (Or.inl ((nI_ltI hj (by decide)).mpr z))
theorem zs_oq2 {x y : Int32} (hy : y = nI (zs_n y)) (h2 : zs_n y ≤ 1000) (h : ¬ (x < nI 1 ∨ y < x)) : ∃ q : Nat, q ≤ 1000 ∧ 1 ≤ q ∧ x = nI q := by
  rw [hy] at h
  obtain ⟨q, a, b, e⟩ := zs_oq (by omega) h
  exact ⟨q, by omega, b, e⟩
theorem zs_fvs {ba ch : Nat → Int32} {x y : Int32} {k r : Nat} : zs_fv ba ch x y k (r + 1) = if ba k = x then (if ch k = y then k else zs_fv ba ch x y (k + 1) r) else zs_fv ba ch x y (k + 1) r := rfl
/-- the reference's search of a key among the listed ones -/
def zs_sc (ks vs : Nat → Int32) (y f v : Int32) (k : Nat) : Nat → Int32
  | 0 => if f = 0 then (-5) else nI 0
  | r + 1 => if ks k = y then (if f = 0 then (if vs k = v then nI 0 else (-5)) else (-5)) else zs_sc ks vs y f v (k + 1) r
theorem zs_sc0 {ks vs : Nat → Int32} {y f v : Int32} {k : Nat} : zs_sc ks vs y f v k 0 = if f = 0 then (-5) else nI 0 := rfl
theorem zs_scs {ks vs : Nat → Int32} {y f v : Int32} {k r : Nat} : zs_sc ks vs y f v k (r + 1) = if ks k = y then (if f = 0 then (if vs k = v then nI 0 else (-5)) else (-5)) else zs_sc ks vs y f v (k + 1) r := rfl
def zs_pf (T : zs_T) (i : Nat) (h y f v : Int32) : Int32 := if zs_mn T i h then (if zs_mk T (1 - i) h then zs_sc (T 5) (T 6) y f v (128 * (8 * (1 - i) + h.toNatClampNeg % 8)) (zs_n (T 4 (8 * (1 - i) + h.toNatClampNeg % 8))) else (-4)) else (-3)
theorem zs_mkq {T : zs_T} {i : Nat} {h : Int32} (z : zs_mk T i h) : ∃ q : Nat, q < 2 ^ 31 ∧ h = nI q := nI_of (zn_n0 z.1)
/-- the list of ledger i's newest height has at most b entries -/
abbrev zs_LT (T : zs_T) (i b : Nat) : Prop := (T 1 i = nI (zs_n (T 1 i)) ∧ zs_n (T 1 i) < 1000) ∧ (T 4 (8 * i + zs_n (T 1 i) % 8) = nI (zs_n (T 4 (8 * i + zs_n (T 1 i) % 8))) ∧ zs_n (T 4 (8 * i + zs_n (T 1 i) % 8)) ≤ b)
theorem zs_LTm {T : zs_T} {i b b' : Nat} (h : zs_LT T i b) (hb : b ≤ b') : zs_LT T i b' := ⟨h.1, h.2.1, Nat.le_trans h.2.2 hb⟩
theorem zs_li1 {T : zs_T} {i : Nat} {y v : Int32} {k : Nat} : zs_li T i y v 1 k = T 1 k := by
  unfold zs_li
  rw [zs_wx (by decide), zs_wx (by decide), zs_wx (by decide)]
theorem zs_LTl {T : zs_T} {i b : Nat} {y v : Int32} (h : zs_LT T i b) (hb : b ≤ 127) : zs_LT (zs_li T i y v) i (b + 1) := by
  have e1 : zs_li T i y v 1 i = T 1 i := zs_li1
  have e4 : zs_li T i y v 4 (8 * i + zs_n (T 1 i) % 8) = nI (zs_n (T 4 (8 * i + zs_n (T 1 i) % 8)) + 1) := by
    unfold zs_li
    rw [zs_ws]
  have hz := h.2.2
  unfold zs_LT
  rw [e1, e4, show zs_n (nI (zs_n (T 4 (8 * i + zs_n (T 1 i) % 8)) + 1)) = zs_n (T 4 (8 * i + zs_n (T 1 i) % 8)) + 1 from nI_clamp (by omega)]
  exact ⟨h.1, rfl, by omega⟩
/-- steps from k on, r of them -/
def zs_it (f : Nat → zs_T → zs_T) (T : zs_T) (k : Nat) : Nat → zs_T
  | 0 => T
  | r + 1 => zs_it f (f k T) (k + 1) r
theorem zs_its {f : Nat → zs_T → zs_T} {i : Nat} (hf : ∀ k b T, b ≤ 127 → zs_LT T i b → zs_LT (f k T) i (b + 1)) : ∀ (r k b : Nat) (T : zs_T), b + r ≤ 128 → zs_LT T i b → zs_LT (zs_it f T k r) i (b + r)
  | 0, _, _, _, _, h => h
  | r + 1, k, b, T, hb, h => by
    have := zs_its hf r (k + 1) (b + 1) (f k T) (by omega) (hf k b T (by omega) h)
    rw [show b + (r + 1) = b + 1 + r by omega]
    exact this
def zs_t1 (i c : Nat) (T : zs_T) : zs_T := if T 7 (3 * i + c) ≤ 0 then T else (if T 8 (3 * i + c) = 0 then zs_li T i (nI (4096 + c)) (nI 2 * T 7 (3 * i + c) + nI 0) else zs_li T i (nI (4096 + c)) (nI 2 * T 7 (3 * i + c) + nI 1))
def zs_t2 (i c : Nat) (T : zs_T) : zs_T := if T 7 (3 * i + c) ≤ 0 then T else (if T 8 (3 * i + c) = 0 then T else zs_li T i (nI (8192 + c)) (T 10 (3 * i + c)))
theorem zs_LT1 {T : zs_T} {i b c : Nat} (h : zs_LT T i b) (hb : b ≤ 127) : zs_LT (zs_t1 i c T) i (b + 1) := by
  unfold zs_t1
  split
  · exact zs_LTm h (by omega)
  · split
    · exact zs_LTl h hb
    · exact zs_LTl h hb
theorem zs_LT2 {T : zs_T} {i b c : Nat} (h : zs_LT T i b) (hb : b ≤ 127) : zs_LT (zs_t2 i c T) i (b + 1) := by
  unfold zs_t2
  split
  · exact zs_LTm h (by omega)
  · split
    · exact zs_LTm h (by omega)
    · exact zs_LTl h hb
def zs_tk0 (T : zs_T) (i : Nat) : zs_T := zs_w (zs_w T 1 i (nI (zs_n (T 1 i) + 1))) 4 (8 * i + (zs_n (T 1 i) + 1) % 8) (nI 0)
theorem zs_LT0 {T : zs_T} {i : Nat} (hh2 : zs_n (T 1 i) < 999) : zs_LT (zs_tk0 T i) i 0 := by
  have e1 : zs_tk0 T i 1 i = nI (zs_n (T 1 i) + 1) := by
    unfold zs_tk0
    rw [zs_wx (by decide), zs_ws]
  have en : zs_n (nI (zs_n (T 1 i) + 1)) = zs_n (T 1 i) + 1 := nI_clamp (by omega)
  have e4 : zs_tk0 T i 4 (8 * i + (zs_n (T 1 i) + 1) % 8) = nI 0 := by
    unfold zs_tk0
    rw [zs_ws]
  unfold zs_LT
  rw [e1, en, e4]
  exact ⟨⟨rfl, by omega⟩, rfl, Nat.le_refl _⟩
/-! the class's root -/
def zs_key (k : Nat) : Int32 := if 3 ≤ k then (if 6 ≤ k then nI (12288 + 4096 * ((k - 6) / 36) + 64 * ((k - 6) % 36 / 12) + ((k - 6) % 36 % 12 + 1)) else nI (8192 + k - 3)) else nI (4096 + k)
/-- ledger i's row of nodes holds g -/
def zs_nd (S : zs_S) (i : Nat) (g : Nat → Int32) : zs_S := fun t i' j' k => if t = 7 ∧ i' = i ∧ j' = 0 then g k else S t i' j' k
theorem zs_nd7 {S : zs_S} {i k : Nat} {g : Nat → Int32} : zs_nd S i g 7 i 0 k = g k := by simp [zs_nd]
theorem zs_ndt {S : zs_S} {i t i' j' k : Nat} {g : Nat → Int32} (h : ¬ t = 7) : zs_nd S i g t i' j' k = S t i' j' k := by simp [zs_nd, h]
theorem zs_nd0 {S : zs_S} {i : Nat} : zs_nd S i (S 7 i 0) = S := by
  funext t i' j' k
  unfold zs_nd
  split
  · rename_i h
    obtain ⟨rfl, rfl, rfl⟩ := h
    rfl
  · rfl
theorem zs_ndu {S : zs_S} {i n : Nat} {g : Nat → Int32} {v : Int32} : zs_u (zs_nd S i g) 7 i 0 n v = zs_nd S i (upd g n v) := by
  funext t i' j' k
  by_cases h : t = 7 ∧ i' = i ∧ j' = 0
  · obtain ⟨rfl, rfl, rfl⟩ := h
    rw [zs_nd7]
    by_cases hk : k = n
    · subst hk
      rw [zs_us, pk_us]
    · rw [zs_uk hk, zs_nd7, pk_un hk]
  · rw [zs_un (fun q => h ⟨q.1, q.2.1, q.2.2.1⟩)]
    simp only [zs_nd, if_neg h]
def zs_leaf (va : Nat → Int32) (k : Nat) : Int32 := zs_mix (zs_mix (nI 1) (zs_key k)) (va k)
/-- the leaves of the slots k, .., k + r - 1 that are there, laid from place n on: their number, the row -/
def zs_c1 (th : Nat → Int32) (n k : Nat) : Nat → Nat
  | 0 => n
  | r + 1 => if th k = 0 then zs_c1 th n (k + 1) r else zs_c1 th (n + 1) (k + 1) r
def zs_g1 (th va : Nat → Int32) (g : Nat → Int32) (n k : Nat) : Nat → Nat → Int32
  | 0 => g
  | r + 1 => if th k = 0 then zs_g1 th va g n (k + 1) r else zs_g1 th va (upd g n (zs_leaf va k)) (n + 1) (k + 1) r
theorem zs_c1s {th : Nat → Int32} {n k r : Nat} : zs_c1 th n k (r + 1) = if th k = 0 then zs_c1 th n (k + 1) r else zs_c1 th (n + 1) (k + 1) r := rfl
theorem zs_g1s {th va g : Nat → Int32} {n k r : Nat} : zs_g1 th va g n k (r + 1) = if th k = 0 then zs_g1 th va g n (k + 1) r else zs_g1 th va (upd g n (zs_leaf va k)) (n + 1) (k + 1) r := rfl
theorem zs_c1le {th : Nat → Int32} : ∀ (r n k : Nat), zs_c1 th n k r ≤ n + r
  | 0, n, k => Nat.le_refl _
  | r + 1, n, k => by
    have a := zs_c1le (th := th) r n (k + 1)
    have b := zs_c1le (th := th) r (n + 1) (k + 1)
    rw [zs_c1s]
    split <;> omega
/-- one pass at stride st, from place a on -/
def zs_g2 (g : Nat → Int32) (n st a : Nat) : Nat → Nat → Int32
  | 0 => g
  | f + 1 => if n ≤ a + st then g else zs_g2 (upd g a (zs_mix (zs_mix (nI 2) (g a)) (g (a + st)))) n st (a + 2 * st) f
theorem zs_g2s {g : Nat → Int32} {n st a f : Nat} : zs_g2 g n st a (f + 1) = if n ≤ a + st then g else zs_g2 (upd g a (zs_mix (zs_mix (nI 2) (g a)) (g (a + st)))) n st (a + 2 * st) f := rfl
def zs_g3 (g : Nat → Int32) (n st : Nat) : Nat → Nat → Int32
  | 0 => g
  | f + 1 => if n ≤ st then g else zs_g3 (zs_g2 g n st 0 n) n (st * 2) f
theorem zs_g3s {g : Nat → Int32} {n st f : Nat} : zs_g3 g n st (f + 1) = if n ≤ st then g else zs_g3 (zs_g2 g n st 0 n) n (st * 2) f := rfl
def zs_rn (th va g : Nat → Int32) : Nat → Int32 := if zs_c1 th 0 0 114 = 0 then zs_g1 th va g 0 0 114 else zs_g3 (zs_g1 th va g 0 0 114) (zs_c1 th 0 0 114) 1 (zs_c1 th 0 0 114)
def zs_rt (th va g : Nat → Int32) : Int32 := if zs_c1 th 0 0 114 = 0 then nI 0 else zs_rn th va g 0
def zs_ra (S : zs_S) (i : Nat) (h : Int32) : Int32 := if zs_kp S i h then zs_rt (S 5 i (h.toNatClampNeg % 8 + 1)) (S 4 i (h.toNatClampNeg % 8 + 1)) (S 7 i 0) else nI 0
def zs_rs (S : zs_S) (i : Nat) (h : Int32) : zs_S := if zs_kp S i h then zs_nd S i (zs_rn (S 5 i (h.toNatClampNeg % 8 + 1)) (S 4 i (h.toNatClampNeg % 8 + 1)) (S 7 i 0)) else S
theorem zn_z0 {n : Nat} (hn : n < 2 ^ 31) (h : nI n = 0) : n = 0 := (nI_eq hn (by decide)).mp h
theorem zn_z1 {n : Nat} (h : ¬ nI n = 0) : ¬ n = 0 := fun e => h (by rw [e]; rfl)
/-! the reference's root -/
def zs_q1 (T : zs_T) (n k : Nat) : zs_T := zs_w (zs_w T 24 n (zs_mix (zs_mix (nI 1) (T 5 k)) (T 6 k))) 25 n (nI 1)
def zs_jw : Nat → zs_T → zs_T × Nat
  | 0, T => (T, 0)
  | 1, T => (T, 1)
  | n + 2, T => if T 25 n = T 25 (n + 1) then zs_jw (n + 1) (zs_jo T (n + 2)) else (T, n + 2)
theorem zs_jw2 {n : Nat} {T : zs_T} : zs_jw (n + 2) T = if T 25 n = T 25 (n + 1) then zs_jw (n + 1) (zs_jo T (n + 2)) else (T, n + 2) := rfl
def zs_jf : Nat → zs_T → zs_T
  | 0, T => T
  | 1, T => T
  | n + 2, T => zs_jf (n + 1) (zs_jo T (n + 2))
theorem zs_jf2 {n : Nat} {T : zs_T} : zs_jf (n + 2) T = zs_jf (n + 1) (zs_jo T (n + 2)) := rfl
def zs_jn (n : Nat) : Nat := if n = 0 then 0 else 1
def zs_qa (T : zs_T) (n k : Nat) : Nat → zs_T × Nat
  | 0 => (T, n)
  | r + 1 => zs_qa (zs_jw (n + 1) (zs_q1 T n k)).1 (zs_jw (n + 1) (zs_q1 T n k)).2 (k + 1) r
theorem zs_qas {T : zs_T} {n k r : Nat} : zs_qa T n k (r + 1) = zs_qa (zs_jw (n + 1) (zs_q1 T n k)).1 (zs_jw (n + 1) (zs_q1 T n k)).2 (k + 1) r := rfl
theorem zs_jwle : ∀ (n : Nat) (T : zs_T), (zs_jw n T).2 ≤ n
  | 0, _ => Nat.le_refl _
  | 1, _ => Nat.le_refl _
  | n + 2, T => by
    rw [zs_jw2]
    split
    · have := zs_jwle (n + 1) (zs_jo T (n + 2))
      omega
    · exact Nat.le_refl _
theorem zs_jwk : ∀ (n : Nat) (T : zs_T) (x k : Nat), x ≠ 24 → x ≠ 25 → (zs_jw n T).1 x k = T x k
  | 0, _, _, _, _, _ => rfl
  | 1, _, _, _, _, _ => rfl
  | n + 2, T, x, k, h4, h5 => by
    rw [zs_jw2]
    split
    · rw [zs_jwk (n + 1) _ x k h4 h5]
      unfold zs_jo
      rw [zs_wx h5, zs_wx h4]
    · rfl
def zs_mrp (T : zs_T) (a : Nat) : zs_T × Nat := zs_qa T 0 (128 * a) (zs_n (T 4 a))
def zs_mr (T : zs_T) (i : Nat) (h : Int32) : Int32 := if zs_mk T i h then (if (zs_mrp T (8 * i + h.toNatClampNeg % 8)).2 = 0 then nI 0 else zs_jf (zs_mrp T (8 * i + h.toNatClampNeg % 8)).2 (zs_mrp T (8 * i + h.toNatClampNeg % 8)).1 24 0) else nI 0
def zs_ms (T : zs_T) (i : Nat) (h : Int32) : zs_T := if zs_mk T i h then zs_jf (zs_mrp T (8 * i + h.toNatClampNeg % 8)).2 (zs_mrp T (8 * i + h.toNatClampNeg % 8)).1 else T
theorem zn_jn {n : Nat} : nI (zs_jn n) = 0 ↔ n = 0 := by
  unfold zs_jn
  by_cases h : n = 0
  · simp [h]; decide
  · simp [h]; decide
/-! Integer.bitCount; update -/
def zs_sh (x k : Int32) : Int32 := (x.toUInt32 >>> (k.toUInt32 &&& Int32.toUInt32 31)).toInt32
def zs_b1 (x : Int32) : Int32 := x - (zs_sh x (nI 1) &&& 1431655765)
def zs_b2 (x : Int32) : Int32 := (x &&& 858993459) + (zs_sh x (nI 2) &&& 858993459)
def zs_b3 (x : Int32) : Int32 := (x + zs_sh x (nI 4)) &&& 252645135
def zs_b4 (x : Int32) : Int32 := x + zs_sh x (nI 8)
def zs_b5 (x : Int32) : Int32 := x + zs_sh x (nI 16)
def zs_bc (x : Int32) : Int32 := zs_b5 (zs_b4 (zs_b3 (zs_b2 (zs_b1 x)))) &&& nI 63
def zs_cur (S : zs_S) (i : Nat) (h x w : Int32) : Int32 := if h < nI 1 then (-1) else (if h ≤ S 2 (1 - i) 0 0 then (if w = 0 then (if nI 3 ≤ zs_bc (x &&& nI 15) then nI 0 else (-6)) else (-6)) else (-1))
def zs_cus (S : zs_S) (i : Nat) (h x w : Int32) : zs_S := if h < nI 1 then S else (if h ≤ S 2 (1 - i) 0 0 then (if w = 0 then (if nI 3 ≤ zs_bc (x &&& nI 15) then zs_ln S i h.toNatClampNeg else S) else S) else S)
theorem zs_uq {h y : Int32} (hh : y = nI (zs_n y)) (hh2 : zs_n y ≤ 512) (h9 : ¬ h < nI 1) (h24 : h ≤ y) : ∃ q : Nat, q ≤ 512 ∧ 1 ≤ q ∧ h = nI q := by
  refine Exists.imp (fun q hq => ⟨?_, hq.2.1, hq.2.2⟩) (zs_oq (x := h) (n := zs_n y) (by omega) ?_)
  · exact Nat.le_trans hq.1 hh2
  · rintro (z | z)
    · exact h9 z
    · rw [← hh] at z
      exact zn_ltle z h24
end
section
theorem wc_Integer_265 : Cond.constant "java/lang/Integer" 265 1431655765 ∈ zw_WS := zw_mem 230 (by decide +kernel) rfl
theorem wc_Integer_266 : Cond.constant "java/lang/Integer" 266 858993459 ∈ zw_WS := zw_mem 231 (by decide +kernel) rfl
theorem wc_Integer_267 : Cond.constant "java/lang/Integer" 267 252645135 ∈ zw_WS := zw_mem 232 (by decide +kernel) rfl
theorem wc_Mo_90 : Cond.constant "TwinLedgersModel" 90 73244475 ∈ zw_WS := zw_mem 626 (by decide +kernel) rfl
theorem wc_TL_157 : Cond.constant "TwinLedgers" 157 73244475 ∈ zw_WS := zw_mem 363 (by decide +kernel) rfl
theorem wf_Bank_11 : Cond.fieldLink "TwinLedgers$Bank" 11 "TwinLedgers$Bank" "purses" "[[I" ∈ zw_WS := zw_mem 90 (by decide +kernel) rfl
theorem wf_Bank_16 : Cond.fieldLink "TwinLedgers$Bank" 16 "TwinLedgers$Bank" "escrows" "[[I" ∈ zw_WS := zw_mem 93 (by decide +kernel) rfl
theorem wf_Bank_19 : Cond.fieldLink "TwinLedgers$Bank" 19 "TwinLedgers$Bank" "bases" "[I" ∈ zw_WS := zw_mem 95 (by decide +kernel) rfl
theorem wf_Bank_23 : Cond.fieldLink "TwinLedgers$Bank" 23 "TwinLedgers$Bank" "channels" "[I" ∈ zw_WS := zw_mem 97 (by decide +kernel) rfl
theorem wf_Bank_26 : Cond.fieldLink "TwinLedgers$Bank" 26 "TwinLedgers$Bank" "vouchers" "I" ∈ zw_WS := zw_mem 99 (by decide +kernel) rfl
theorem wf_Bank_30 : Cond.fieldLinkNest "TwinLedgers$Bank" 30 "TwinLedgers$Packet" "from" "I" "TwinLedgers" ∈ zw_NS := List.mem_of_getElem? (i := 13) rfl
theorem wf_Bank_35 : Cond.fieldLinkNest "TwinLedgers$Bank" 35 "TwinLedgers$Packet" "kind" "I" "TwinLedgers" ∈ zw_NS := List.mem_of_getElem? (i := 9) rfl
theorem wf_Bank_38 : Cond.fieldLinkNest "TwinLedgers$Bank" 38 "TwinLedgers$Packet" "amount" "I" "TwinLedgers" ∈ zw_NS := List.mem_of_getElem? (i := 11) rfl
theorem wf_Bank_45 : Cond.fieldLinkNest "TwinLedgers$Bank" 45 "TwinLedgers$Packet" "to" "I" "TwinLedgers" ∈ zw_NS := List.mem_of_getElem? (i := 15) rfl
theorem wf_Bank_55 : Cond.fieldLinkNest "TwinLedgers$Bank" 55 "TwinLedgers$Packet" "back" "I" "TwinLedgers" ∈ zw_NS := List.mem_of_getElem? (i := 19) rfl
theorem wf_Client_15 : Cond.fieldLink "TwinLedgers$Client" 15 "TwinLedgers$Client" "greatest" "I" ∈ zw_WS := zw_mem 75 (by decide +kernel) rfl
theorem wf_Client_9 : Cond.fieldLink "TwinLedgers$Client" 9 "TwinLedgers$Client" "known" "[Z" ∈ zw_WS := zw_mem 74 (by decide +kernel) rfl
theorem wf_Ledger_114 : Cond.fieldLinkNest "TwinLedgers$Ledger" 114 "TwinLedgers$End" "sent" "I" "TwinLedgers" ∈ zw_NS := List.mem_of_getElem? (i := 26) rfl
theorem wf_Ledger_117 : Cond.fieldLinkNest "TwinLedgers$Ledger" 117 "TwinLedgers$Bank" "purses" "[[I" "TwinLedgers" ∈ zw_NS := List.mem_of_getElem? (i := 3) rfl
theorem wf_Ledger_12 : Cond.fieldLink "TwinLedgers$Ledger" 12 "TwinLedgers$Ledger" "store" "LTwinLedgers$Store;" ∈ zw_WS := zw_mem 175 (by decide +kernel) rfl
theorem wf_Ledger_121 : Cond.fieldLinkNest "TwinLedgers$Ledger" 121 "TwinLedgers$End" "packets" "[LTwinLedgers$Packet;" "TwinLedgers" ∈ zw_NS := List.mem_of_getElem? (i := 24) rfl
theorem wf_Ledger_125 : Cond.fieldLinkNest "TwinLedgers$Ledger" 125 "TwinLedgers$Packet" "kind" "I" "TwinLedgers" ∈ zw_NS := List.mem_of_getElem? (i := 10) rfl
theorem wf_Ledger_130 : Cond.fieldLinkNest "TwinLedgers$Ledger" 130 "TwinLedgers$Packet" "amount" "I" "TwinLedgers" ∈ zw_NS := List.mem_of_getElem? (i := 12) rfl
theorem wf_Ledger_133 : Cond.fieldLinkNest "TwinLedgers$Ledger" 133 "TwinLedgers$Packet" "from" "I" "TwinLedgers" ∈ zw_NS := List.mem_of_getElem? (i := 14) rfl
theorem wf_Ledger_136 : Cond.fieldLinkNest "TwinLedgers$Ledger" 136 "TwinLedgers$Packet" "to" "I" "TwinLedgers" ∈ zw_NS := List.mem_of_getElem? (i := 16) rfl
theorem wf_Ledger_139 : Cond.fieldLinkNest "TwinLedgers$Ledger" 139 "TwinLedgers$Client" "greatest" "I" "TwinLedgers" ∈ zw_NS := List.mem_of_getElem? (i := 2) rfl
theorem wf_Ledger_142 : Cond.fieldLinkNest "TwinLedgers$Ledger" 142 "TwinLedgers$Packet" "lastHeight" "I" "TwinLedgers" ∈ zw_NS := List.mem_of_getElem? (i := 18) rfl
theorem wf_Ledger_148 : Cond.fieldLinkNest "TwinLedgers$Ledger" 148 "TwinLedgers$Packet" "back" "I" "TwinLedgers" ∈ zw_NS := List.mem_of_getElem? (i := 20) rfl
theorem wf_Ledger_18 : Cond.fieldLink "TwinLedgers$Ledger" 18 "TwinLedgers$Ledger" "states" "[LTwinLedgers$Store;" ∈ zw_WS := zw_mem 176 (by decide +kernel) rfl
theorem wf_Ledger_184 : Cond.fieldLinkNest "TwinLedgers$Ledger" 184 "TwinLedgers$End" "nextToAcknowledge" "I" "TwinLedgers" ∈ zw_NS := List.mem_of_getElem? (i := 28) rfl
theorem wf_Ledger_187 : Cond.fieldLinkNest "TwinLedgers$Ledger" 187 "TwinLedgers$Packet" "fate" "I" "TwinLedgers" ∈ zw_NS := List.mem_of_getElem? (i := 22) rfl
theorem wf_Ledger_22 : Cond.fieldLink "TwinLedgers$Ledger" 22 "TwinLedgers$Ledger" "nodes" "[I" ∈ zw_WS := zw_mem 177 (by decide +kernel) rfl
theorem wf_Ledger_29 : Cond.fieldLink "TwinLedgers$Ledger" 29 "TwinLedgers$Ledger" "client" "LTwinLedgers$Client;" ∈ zw_WS := zw_mem 178 (by decide +kernel) rfl
theorem wf_Ledger_36 : Cond.fieldLink "TwinLedgers$Ledger" 36 "TwinLedgers$Ledger" "bank" "LTwinLedgers$Bank;" ∈ zw_WS := zw_mem 180 (by decide +kernel) rfl
theorem wf_Ledger_42 : Cond.fieldLink "TwinLedgers$Ledger" 42 "TwinLedgers$Ledger" "ends" "[LTwinLedgers$End;" ∈ zw_WS := zw_mem 182 (by decide +kernel) rfl
theorem wf_Ledger_47 : Cond.fieldLink "TwinLedgers$Ledger" 47 "TwinLedgers$Ledger" "height" "I" ∈ zw_WS := zw_mem 184 (by decide +kernel) rfl
theorem wf_Mo_13 : Cond.fieldLink "TwinLedgersModel" 13 "TwinLedgersModel" "known" "[Z" ∈ zw_WS := zw_mem 527 (by decide +kernel) rfl
theorem wf_Mo_17 : Cond.fieldLink "TwinLedgersModel" 17 "TwinLedgersModel" "newest" "[I" ∈ zw_WS := zw_mem 528 (by decide +kernel) rfl
theorem wf_Mo_20 : Cond.fieldLink "TwinLedgersModel" 20 "TwinLedgersModel" "sizes" "[I" ∈ zw_WS := zw_mem 529 (by decide +kernel) rfl
theorem wf_Mo_23 : Cond.fieldLink "TwinLedgersModel" 23 "TwinLedgersModel" "keys" "[I" ∈ zw_WS := zw_mem 530 (by decide +kernel) rfl
theorem wf_Mo_26 : Cond.fieldLink "TwinLedgersModel" 26 "TwinLedgersModel" "values" "[I" ∈ zw_WS := zw_mem 531 (by decide +kernel) rfl
theorem wf_Mo_29 : Cond.fieldLink "TwinLedgersModel" 29 "TwinLedgersModel" "state" "[I" ∈ zw_WS := zw_mem 532 (by decide +kernel) rfl
theorem wf_Mo_32 : Cond.fieldLink "TwinLedgersModel" 32 "TwinLedgersModel" "ordered" "[Z" ∈ zw_WS := zw_mem 533 (by decide +kernel) rfl
theorem wf_Mo_35 : Cond.fieldLink "TwinLedgersModel" 35 "TwinLedgersModel" "sent" "[I" ∈ zw_WS := zw_mem 534 (by decide +kernel) rfl
theorem wf_Mo_38 : Cond.fieldLink "TwinLedgersModel" 38 "TwinLedgersModel" "nextIn" "[I" ∈ zw_WS := zw_mem 535 (by decide +kernel) rfl
theorem wf_Mo_41 : Cond.fieldLink "TwinLedgersModel" 41 "TwinLedgersModel" "nextAnswer" "[I" ∈ zw_WS := zw_mem 536 (by decide +kernel) rfl
theorem wf_Mo_44 : Cond.fieldLink "TwinLedgersModel" 44 "TwinLedgersModel" "pKind" "[I" ∈ zw_WS := zw_mem 537 (by decide +kernel) rfl
theorem wf_Mo_47 : Cond.fieldLink "TwinLedgersModel" 47 "TwinLedgersModel" "pAmount" "[I" ∈ zw_WS := zw_mem 538 (by decide +kernel) rfl
theorem wf_Mo_50 : Cond.fieldLink "TwinLedgersModel" 50 "TwinLedgersModel" "pWho" "[I" ∈ zw_WS := zw_mem 539 (by decide +kernel) rfl
theorem wf_Mo_53 : Cond.fieldLink "TwinLedgersModel" 53 "TwinLedgersModel" "pLimit" "[I" ∈ zw_WS := zw_mem 540 (by decide +kernel) rfl
theorem wf_Mo_56 : Cond.fieldLink "TwinLedgersModel" 56 "TwinLedgersModel" "pBack" "[I" ∈ zw_WS := zw_mem 541 (by decide +kernel) rfl
theorem wf_Mo_59 : Cond.fieldLink "TwinLedgersModel" 59 "TwinLedgersModel" "pStatus" "[I" ∈ zw_WS := zw_mem 542 (by decide +kernel) rfl
theorem wf_Mo_62 : Cond.fieldLink "TwinLedgersModel" 62 "TwinLedgersModel" "pAnswer" "[I" ∈ zw_WS := zw_mem 543 (by decide +kernel) rfl
theorem wf_Mo_65 : Cond.fieldLink "TwinLedgersModel" 65 "TwinLedgersModel" "balance" "[I" ∈ zw_WS := zw_mem 544 (by decide +kernel) rfl
theorem wf_Mo_68 : Cond.fieldLink "TwinLedgersModel" 68 "TwinLedgersModel" "escrow" "[I" ∈ zw_WS := zw_mem 545 (by decide +kernel) rfl
theorem wf_Mo_7 : Cond.fieldLink "TwinLedgersModel" 7 "TwinLedgersModel" "height" "[I" ∈ zw_WS := zw_mem 526 (by decide +kernel) rfl
theorem wf_Mo_71 : Cond.fieldLink "TwinLedgersModel" 71 "TwinLedgersModel" "vouchers" "[I" ∈ zw_WS := zw_mem 546 (by decide +kernel) rfl
theorem wf_Mo_74 : Cond.fieldLink "TwinLedgersModel" 74 "TwinLedgersModel" "base" "[I" ∈ zw_WS := zw_mem 547 (by decide +kernel) rfl
theorem wf_Mo_77 : Cond.fieldLink "TwinLedgersModel" 77 "TwinLedgersModel" "by" "[I" ∈ zw_WS := zw_mem 548 (by decide +kernel) rfl
theorem wf_Mo_80 : Cond.fieldLink "TwinLedgersModel" 80 "TwinLedgersModel" "part" "[I" ∈ zw_WS := zw_mem 549 (by decide +kernel) rfl
theorem wf_Mo_83 : Cond.fieldLink "TwinLedgersModel" 83 "TwinLedgersModel" "leaves" "[I" ∈ zw_WS := zw_mem 550 (by decide +kernel) rfl
theorem wf_Mo_86 : Cond.fieldLink "TwinLedgersModel" 86 "TwinLedgersModel" "patience" "I" ∈ zw_WS := zw_mem 525 (by decide +kernel) rfl
theorem wf_Packet_15 : Cond.fieldLink "TwinLedgers$Packet" 15 "TwinLedgers$Packet" "kind" "I" ∈ zw_WS := zw_mem 125 (by decide +kernel) rfl
theorem wf_Packet_22 : Cond.fieldLink "TwinLedgers$Packet" 22 "TwinLedgers$Packet" "amount" "I" ∈ zw_WS := zw_mem 128 (by decide +kernel) rfl
theorem wf_Packet_25 : Cond.fieldLink "TwinLedgers$Packet" 25 "TwinLedgers$Packet" "from" "I" ∈ zw_WS := zw_mem 131 (by decide +kernel) rfl
theorem wf_Packet_28 : Cond.fieldLink "TwinLedgers$Packet" 28 "TwinLedgers$Packet" "to" "I" ∈ zw_WS := zw_mem 134 (by decide +kernel) rfl
theorem wf_Packet_31 : Cond.fieldLink "TwinLedgers$Packet" 31 "TwinLedgers$Packet" "lastHeight" "I" ∈ zw_WS := zw_mem 137 (by decide +kernel) rfl
theorem wf_Packet_9 : Cond.fieldLink "TwinLedgers$Packet" 9 "TwinLedgers$Packet" "back" "I" ∈ zw_WS := zw_mem 140 (by decide +kernel) rfl
theorem wf_Store_11 : Cond.fieldLink "TwinLedgers$Store" 11 "TwinLedgers$Store" "values" "[I" ∈ zw_WS := zw_mem 58 (by decide +kernel) rfl
theorem wf_Store_15 : Cond.fieldLink "TwinLedgers$Store" 15 "TwinLedgers$Store" "there" "[Z" ∈ zw_WS := zw_mem 59 (by decide +kernel) rfl
theorem wf_TL_11 : Cond.fieldLink "TwinLedgers" 11 "TwinLedgers" "ledgers" "[LTwinLedgers$Ledger;" ∈ zw_WS := zw_mem 202 (by decide +kernel) rfl
theorem wf_TL_116 : Cond.fieldLinkNest "TwinLedgers" 116 "TwinLedgers$Ledger" "ends" "[LTwinLedgers$End;" "TwinLedgers" ∈ zw_NS := List.mem_of_getElem? (i := 31) rfl
theorem wf_TL_120 : Cond.fieldLinkNest "TwinLedgers" 120 "TwinLedgers$End" "sent" "I" "TwinLedgers" ∈ zw_NS := List.mem_of_getElem? (i := 25) rfl
theorem wf_TL_128 : Cond.fieldLinkNest "TwinLedgers" 128 "TwinLedgers$End" "nextToAcknowledge" "I" "TwinLedgers" ∈ zw_NS := List.mem_of_getElem? (i := 27) rfl
theorem wf_TL_131 : Cond.fieldLinkNest "TwinLedgers" 131 "TwinLedgers$End" "packets" "[LTwinLedgers$Packet;" "TwinLedgers" ∈ zw_NS := List.mem_of_getElem? (i := 23) rfl
theorem wf_TL_135 : Cond.fieldLinkNest "TwinLedgers" 135 "TwinLedgers$Packet" "fate" "I" "TwinLedgers" ∈ zw_NS := List.mem_of_getElem? (i := 21) rfl
theorem wf_TL_140 : Cond.fieldLinkNest "TwinLedgers" 140 "TwinLedgers$Packet" "lastHeight" "I" "TwinLedgers" ∈ zw_NS := List.mem_of_getElem? (i := 17) rfl
theorem wf_TL_143 : Cond.fieldLinkNest "TwinLedgers" 143 "TwinLedgers$Bank" "purses" "[[I" "TwinLedgers" ∈ zw_NS := List.mem_of_getElem? (i := 4) rfl
theorem wf_TL_147 : Cond.fieldLinkNest "TwinLedgers" 147 "TwinLedgers$Bank" "escrows" "[[I" "TwinLedgers" ∈ zw_NS := List.mem_of_getElem? (i := 5) rfl
theorem wf_TL_15 : Cond.fieldLink "TwinLedgers" 15 "TwinLedgers" "patience" "I" ∈ zw_WS := zw_mem 201 (by decide +kernel) rfl
theorem wf_TL_150 : Cond.fieldLinkNest "TwinLedgers" 150 "TwinLedgers$Bank" "bases" "[I" "TwinLedgers" ∈ zw_NS := List.mem_of_getElem? (i := 6) rfl
theorem wf_TL_154 : Cond.fieldLinkNest "TwinLedgers" 154 "TwinLedgers$Bank" "channels" "[I" "TwinLedgers" ∈ zw_NS := List.mem_of_getElem? (i := 7) rfl
theorem wf_TL_28 : Cond.fieldLinkNest "TwinLedgers" 28 "TwinLedgers$Ledger" "height" "I" "TwinLedgers" ∈ zw_NS := List.mem_of_getElem? (i := 32) rfl
theorem wf_TL_37 : Cond.fieldLinkNest "TwinLedgers" 37 "TwinLedgers$Ledger" "client" "LTwinLedgers$Client;" "TwinLedgers" ∈ zw_NS := List.mem_of_getElem? (i := 29) rfl
theorem wf_TL_66 : Cond.fieldLinkNest "TwinLedgers" 66 "TwinLedgers$Ledger" "bank" "LTwinLedgers$Bank;" "TwinLedgers" ∈ zw_NS := List.mem_of_getElem? (i := 30) rfl
theorem wl_Bank_41 : Cond.methodLink "TwinLedgers$Bank" 41 ym_Packet_goesBack ∈ zw_WS := zw_mem 349 (by decide +kernel) rfl
theorem wl_Bank_48 : Cond.methodLink "TwinLedgers$Bank" 48 ym_Bank_takeBack ∈ zw_WS := zw_mem 396 (by decide +kernel) rfl
theorem wl_Bank_52 : Cond.methodLink "TwinLedgers$Bank" 52 ym_Bank_takeVoucher ∈ zw_WS := zw_mem 400 (by decide +kernel) rfl
theorem wl_Bank_58 : Cond.methodLink "TwinLedgers$Bank" 58 ym_Bank_findVoucher ∈ zw_WS := zw_mem 404 (by decide +kernel) rfl
theorem wl_Client_19 : Cond.methodLink "TwinLedgers$Client" 19 Lib.Math.max.name ∈ zw_WS := zw_mem 237 (by decide +kernel) rfl
theorem wl_Ledger_103 : Cond.methodLink "TwinLedgers$Ledger" 103 ym_Store_put ∈ zw_WS := zw_mem 266 (by decide +kernel) rfl
theorem wl_Ledger_107 : Cond.methodLink "TwinLedgers$Ledger" 107 ym_Ledger_proveEnd ∈ zw_WS := zw_mem 285 (by decide +kernel) rfl
theorem wl_Ledger_111 : Cond.methodLink "TwinLedgers$Ledger" 111 ym_Ledger_moveEnd ∈ zw_WS := zw_mem 317 (by decide +kernel) rfl
theorem wl_Ledger_145 : Cond.methodLink "TwinLedgers$Ledger" 145 ym_Bank_backBy ∈ zw_WS := zw_mem 341 (by decide +kernel) rfl
theorem wl_Ledger_151 : Cond.methodLink "TwinLedgers$Ledger" 151 ym_Bank_charge ∈ zw_WS := zw_mem 345 (by decide +kernel) rfl
theorem wl_Ledger_155 : Cond.methodLink "TwinLedgers$Ledger" 155 ym_Store_printSlot ∈ zw_WS := zw_mem 353 (by decide +kernel) rfl
theorem wl_Ledger_158 : Cond.methodLink "TwinLedgers$Ledger" 158 ym_Packet_printWith ∈ zw_WS := zw_mem 356 (by decide +kernel) rfl
theorem wl_Ledger_161 : Cond.methodLink "TwinLedgers$Ledger" 161 ym_Ledger_isReceivable ∈ zw_WS := zw_mem 376 (by decide +kernel) rfl
theorem wl_Ledger_165 : Cond.methodLink "TwinLedgers$Ledger" 165 ym_Bank_take ∈ zw_WS := zw_mem 392 (by decide +kernel) rfl
theorem wl_Ledger_169 : Cond.methodLink "TwinLedgers$Ledger" 169 ym_Ledger_noteReceived ∈ zw_WS := zw_mem 408 (by decide +kernel) rfl
theorem wl_Ledger_172 : Cond.methodLink "TwinLedgers$Ledger" 172 ym_Ledger_isOrdered ∈ zw_WS := zw_mem 380 (by decide +kernel) rfl
theorem wl_Ledger_175 : Cond.methodLink "TwinLedgers$Ledger" 175 ym_Ledger_nextToReceive ∈ zw_WS := zw_mem 384 (by decide +kernel) rfl
theorem wl_Ledger_178 : Cond.methodLink "TwinLedgers$Ledger" 178 ym_Store_receiptSlot ∈ zw_WS := zw_mem 389 (by decide +kernel) rfl
theorem wl_Ledger_181 : Cond.methodLink "TwinLedgers$Ledger" 181 ym_Store_answerSlot ∈ zw_WS := zw_mem 412 (by decide +kernel) rfl
theorem wl_Ledger_190 : Cond.methodLink "TwinLedgers$Ledger" 190 ym_Ledger_settle ∈ zw_WS := zw_mem 423 (by decide +kernel) rfl
theorem wl_Ledger_193 : Cond.methodLink "TwinLedgers$Ledger" 193 ym_Ledger_proveNotReceived ∈ zw_WS := zw_mem 443 (by decide +kernel) rfl
theorem wl_Ledger_196 : Cond.methodLink "TwinLedgers$Ledger" 196 ym_Ledger_proveAbsence ∈ zw_WS := zw_mem 447 (by decide +kernel) rfl
theorem wl_Ledger_200 : Cond.methodLink "TwinLedgers$Ledger" 200 ym_Store_drop ∈ zw_WS := zw_mem 427 (by decide +kernel) rfl
theorem wl_Ledger_204 : Cond.methodLink "TwinLedgers$Ledger" 204 ym_Bank_refund ∈ zw_WS := zw_mem 431 (by decide +kernel) rfl
theorem wl_Ledger_51 : Cond.methodLink "TwinLedgers$Ledger" 51 ym_Store_copyFrom ∈ zw_WS := zw_mem 219 (by decide +kernel) rfl
theorem wl_Ledger_55 : Cond.methodLink "TwinLedgers$Ledger" 55 ym_Ledger_keeps ∈ zw_WS := zw_mem 301 (by decide +kernel) rfl
theorem wl_Ledger_59 : Cond.methodLink "TwinLedgers$Ledger" 59 ym_Store_rootBy ∈ zw_WS := zw_mem 476 (by decide +kernel) rfl
theorem wl_Ledger_63 : Cond.methodLink "TwinLedgers$Ledger" 63 ym_Store_endSlot ∈ zw_WS := zw_mem 255 (by decide +kernel) rfl
theorem wl_Ledger_67 : Cond.methodLink "TwinLedgers$Ledger" 67 ym_Store_valueIn ∈ zw_WS := zw_mem 258 (by decide +kernel) rfl
theorem wl_Ledger_70 : Cond.methodLink "TwinLedgers$Ledger" 70 ym_Ledger_orderOf ∈ zw_WS := zw_mem 281 (by decide +kernel) rfl
theorem wl_Ledger_73 : Cond.methodLink "TwinLedgers$Ledger" 73 ym_Store_nextSlot ∈ zw_WS := zw_mem 270 (by decide +kernel) rfl
theorem wl_Ledger_76 : Cond.methodLink "TwinLedgers$Ledger" 76 Lib.Math.max.name ∈ zw_WS := zw_mem 388 (by decide +kernel) rfl
theorem wl_Ledger_82 : Cond.methodLink "TwinLedgers$Ledger" 82 ym_Client_hasHeader ∈ zw_WS := zw_mem 297 (by decide +kernel) rfl
theorem wl_Ledger_85 : Cond.methodLink "TwinLedgers$Ledger" 85 ym_Ledger_reach ∈ zw_WS := zw_mem 293 (by decide +kernel) rfl
theorem wl_Ledger_89 : Cond.methodLink "TwinLedgers$Ledger" 89 ym_Store_has ∈ zw_WS := zw_mem 305 (by decide +kernel) rfl
theorem wl_Ledger_92 : Cond.methodLink "TwinLedgers$Ledger" 92 ym_Ledger_proveValue ∈ zw_WS := zw_mem 289 (by decide +kernel) rfl
theorem wl_Ledger_96 : Cond.methodLink "TwinLedgers$Ledger" 96 ym_Ledger_stateOf ∈ zw_WS := zw_mem 251 (by decide +kernel) rfl
theorem wl_Ledger_99 : Cond.methodLink "TwinLedgers$Ledger" 99 ym_Ledger_makeEnd ∈ zw_WS := zw_mem 262 (by decide +kernel) rfl
theorem wl_Mo_103 : Cond.methodLink "TwinLedgersModel" 103 ym_Mo_print ∈ zw_WS := zw_mem 619 (by decide +kernel) rfl
theorem wl_Mo_107 : Cond.methodLink "TwinLedgersModel" 107 ym_Mo_mix ∈ zw_WS := zw_mem 623 (by decide +kernel) rfl
theorem wl_Mo_110 : Cond.methodLink "TwinLedgersModel" 110 ym_Mo_knows ∈ zw_WS := zw_mem 665 (by decide +kernel) rfl
theorem wl_Mo_114 : Cond.methodLink "TwinLedgersModel" 114 ym_Mo_keeps ∈ zw_WS := zw_mem 639 (by decide +kernel) rfl
theorem wl_Mo_117 : Cond.methodLink "TwinLedgersModel" 117 ym_Mo_join ∈ zw_WS := zw_mem 643 (by decide +kernel) rfl
theorem wl_Mo_121 : Cond.methodLink "TwinLedgersModel" 121 ym_Mo_isEnd ∈ zw_WS := zw_mem 651 (by decide +kernel) rfl
theorem wl_Mo_124 : Cond.methodLink "TwinLedgersModel" 124 ym_Mo_flag ∈ zw_WS := zw_mem 658 (by decide +kernel) rfl
theorem wl_Mo_128 : Cond.methodLink "TwinLedgersModel" 128 ym_Mo_proof ∈ zw_WS := zw_mem 661 (by decide +kernel) rfl
theorem wl_Mo_132 : Cond.methodLink "TwinLedgersModel" 132 ym_Mo_voucherFor ∈ zw_WS := zw_mem 686 (by decide +kernel) rfl
theorem wl_Mo_136 : Cond.methodLink "TwinLedgersModel" 136 ym_Mo_takes ∈ zw_WS := zw_mem 682 (by decide +kernel) rfl
theorem wl_Mo_140 : Cond.methodLink "TwinLedgersModel" 140 ym_Mo_refund ∈ zw_WS := zw_mem 694 (by decide +kernel) rfl
theorem wl_Mo_143 : Cond.methodLink "TwinLedgersModel" 143 ym_Mo_notReceived ∈ zw_WS := zw_mem 702 (by decide +kernel) rfl
theorem wl_Mo_147 : Cond.methodLink "TwinLedgersModel" 147 ym_Mo_receive ∈ zw_WS := zw_mem 716 (by decide +kernel) rfl
theorem wl_Mo_151 : Cond.methodLink "TwinLedgersModel" 151 ym_Mo_acknowledge ∈ zw_WS := zw_mem 717 (by decide +kernel) rfl
theorem wl_Mo_154 : Cond.methodLink "TwinLedgersModel" 154 ym_Mo_timeout ∈ zw_WS := zw_mem 718 (by decide +kernel) rfl
theorem wl_Mo_157 : Cond.methodLink "TwinLedgersModel" 157 ym_Mo_tick ∈ zw_WS := zw_mem 710 (by decide +kernel) rfl
theorem wl_Mo_160 : Cond.methodLink "TwinLedgersModel" 160 ym_Mo_update ∈ zw_WS := zw_mem 711 (by decide +kernel) rfl
theorem wl_Mo_164 : Cond.methodLink "TwinLedgersModel" 164 ym_Mo_relay ∈ zw_WS := zw_mem 712 (by decide +kernel) rfl
theorem wl_Mo_167 : Cond.methodLink "TwinLedgersModel" 167 ym_Mo_isPacket ∈ zw_WS := zw_mem 731 (by decide +kernel) rfl
theorem wl_Mo_91 : Cond.methodLink "TwinLedgersModel" 91 ym_Mo_outside ∈ zw_WS := zw_mem 608 (by decide +kernel) rfl
theorem wl_Mo_95 : Cond.methodLink "TwinLedgersModel" 95 ym_Mo_list ∈ zw_WS := zw_mem 611 (by decide +kernel) rfl
theorem wl_Mo_99 : Cond.methodLink "TwinLedgersModel" 99 ym_Mo_listPacket ∈ zw_WS := zw_mem 615 (by decide +kernel) rfl
theorem wl_Packet_18 : Cond.methodLinkNest "TwinLedgers$Packet" 18 ym_TL_mix "TwinLedgers" ∈ zw_NS := List.mem_of_getElem? (i := 33) rfl
theorem wl_Store_19 : Cond.methodLink "TwinLedgers$Store" 19 ym_Store_keyOf ∈ zw_WS := zw_mem 480 (by decide +kernel) rfl
theorem wl_Store_23 : Cond.methodLinkNest "TwinLedgers$Store" 23 ym_TL_mix "TwinLedgers" ∈ zw_NS := List.mem_of_getElem? (i := 34) rfl
theorem wl_TL_101 : Cond.methodLink "TwinLedgers" 101 ym_TL_relayTimeouts ∈ zw_WS := zw_mem 461 (by decide +kernel) rfl
theorem wl_TL_104 : Cond.methodLink "TwinLedgers" 104 ym_Ledger_rootAt ∈ zw_WS := zw_mem 472 (by decide +kernel) rfl
theorem wl_TL_107 : Cond.methodLink "TwinLedgers" 107 ym_Client_hasHeader ∈ zw_WS := zw_mem 488 (by decide +kernel) rfl
theorem wl_TL_110 : Cond.methodLink "TwinLedgers" 110 ym_Ledger_stateOf ∈ zw_WS := zw_mem 493 (by decide +kernel) rfl
theorem wl_TL_113 : Cond.methodLink "TwinLedgers" 113 ym_Ledger_orderOf ∈ zw_WS := zw_mem 494 (by decide +kernel) rfl
theorem wl_TL_125 : Cond.methodLink "TwinLedgers" 125 ym_Ledger_nextToReceive ∈ zw_WS := zw_mem 495 (by decide +kernel) rfl
theorem wl_TL_20 : Cond.methodLink "TwinLedgers" 20 ym_TL_isLedger ∈ zw_WS := zw_mem 212 (by decide +kernel) rfl
theorem wl_TL_24 : Cond.methodLink "TwinLedgers" 24 ym_Ledger_makeBlock ∈ zw_WS := zw_mem 215 (by decide +kernel) rfl
theorem wl_TL_31 : Cond.methodLink "TwinLedgers" 31 ym_Integer_bitCount ∈ zw_WS := zw_mem 227 (by decide +kernel) rfl
theorem wl_TL_41 : Cond.methodLink "TwinLedgers" 41 ym_Client_learn ∈ zw_WS := zw_mem 233 (by decide +kernel) rfl
theorem wl_TL_47 : Cond.methodLink "TwinLedgers" 47 ym_TL_isEnd ∈ zw_WS := zw_mem 244 (by decide +kernel) rfl
theorem wl_TL_51 : Cond.methodLink "TwinLedgers" 51 ym_Ledger_startEnd ∈ zw_WS := zw_mem 247 (by decide +kernel) rfl
theorem wl_TL_55 : Cond.methodLink "TwinLedgers" 55 ym_Ledger_tryEnd ∈ zw_WS := zw_mem 277 (by decide +kernel) rfl
theorem wl_TL_59 : Cond.methodLink "TwinLedgers" 59 ym_Ledger_followEnd ∈ zw_WS := zw_mem 313 (by decide +kernel) rfl
theorem wl_TL_63 : Cond.methodLink "TwinLedgers" 63 ym_Ledger_closeEnd ∈ zw_WS := zw_mem 325 (by decide +kernel) rfl
theorem wl_TL_70 : Cond.methodLink "TwinLedgers" 70 ym_Bank_isKind ∈ zw_WS := zw_mem 333 (by decide +kernel) rfl
theorem wl_TL_75 : Cond.methodLink "TwinLedgers" 75 ym_Ledger_sendPacket ∈ zw_WS := zw_mem 337 (by decide +kernel) rfl
theorem wl_TL_79 : Cond.methodLink "TwinLedgers" 79 ym_TL_isPacket ∈ zw_WS := zw_mem 368 (by decide +kernel) rfl
theorem wl_TL_83 : Cond.methodLink "TwinLedgers" 83 ym_Ledger_receivePacket ∈ zw_WS := zw_mem 372 (by decide +kernel) rfl
theorem wl_TL_87 : Cond.methodLink "TwinLedgers" 87 ym_Ledger_settleAnswered ∈ zw_WS := zw_mem 419 (by decide +kernel) rfl
theorem wl_TL_91 : Cond.methodLink "TwinLedgers" 91 ym_Ledger_settleTimedOut ∈ zw_WS := zw_mem 439 (by decide +kernel) rfl
theorem wl_TL_94 : Cond.methodLink "TwinLedgers" 94 ym_TL_relayPackets ∈ zw_WS := zw_mem 455 (by decide +kernel) rfl
theorem wl_TL_98 : Cond.methodLink "TwinLedgers" 98 ym_TL_relayAnswers ∈ zw_WS := zw_mem 458 (by decide +kernel) rfl
theorem wx_mathC : Cond.code Lib.Math.max.name Lib.Math.max.code 2 (some .int) ∈ zw_WS := zw_mem 239 (by decide +kernel) rfl
theorem wx_mathI : Cond.initialized "java/lang/Math" ∈ zw_WS := zw_mem 36 (by decide +kernel) rfl
theorem wx_mathS : Cond.static Lib.Math.max.name ∈ zw_WS := zw_mem 238 (by decide +kernel) rfl
end
section
set_option maxHeartbeats 4000000 in
set_option maxRecDepth 100000 in
theorem zc_Integer_bitCount (lc : Launch) (G : zw_G) (b0 : Nat) (S : zs_S) (x : Int32)  : zw_M lc ym_Integer_bitCount bm_Integer_bitCount 1 (some .int) { frames := 0, cells := 0, slots := 0, locals := 0 } G b0 176 (zp_p G b0 S) [.int x] (zw_Qi G b0 176 (zp_p G b0 S) (zs_bc x)) := by
  refine zw_of (by decide) (Nat.le_of_ble_eq_true rfl) ?_
  intro p e s m below meth cx ls F hr hlk hE hP hS hl
  have hl : lv_has ls 1 [(0, .int x)] := hl
  refine lv_iload_n F.1 F.2.1 dd_Integer_bitCount_0 rfl (lv_at hl 0 rfl) ?_
  refine lv_iload_n F.1 F.2.1 dd_Integer_bitCount_1 rfl (lv_at hl 0 rfl) ?_
  refine lv_iconst (v := nI 1) F.1 F.2.1 dd_Integer_bitCount_2 (by decide) ?_
  refine lv_iushr F.1 F.2.1 dd_Integer_bitCount_3 rfl ?_
  refine lv_ldcw (v := 1431655765) F.1 F.2.1 F.2.2.2.1 (F.2.2.2.2 _ wc_Integer_265) dd_Integer_bitCount_4 ?_
  refine lv_iand F.1 F.2.1 dd_Integer_bitCount_7 ?_
  refine lv_isub F.1 F.2.1 dd_Integer_bitCount_8 ?_
  refine zn_top (y := zs_b1 x) (rfl) ?_
  refine lv_istore_n F.1 F.2.1 dd_Integer_bitCount_9 rfl hl (by decide) (lv' := [(0, .int (zs_b1 x))]) rfl (fun ls hl => ?_)
  refine lv_iload_n F.1 F.2.1 dd_Integer_bitCount_10 rfl (lv_at hl 0 rfl) ?_
  refine lv_ldcw (v := 858993459) F.1 F.2.1 F.2.2.2.1 (F.2.2.2.2 _ wc_Integer_266) dd_Integer_bitCount_11 ?_
  refine lv_iand F.1 F.2.1 dd_Integer_bitCount_14 ?_
  refine lv_iload_n F.1 F.2.1 dd_Integer_bitCount_15 rfl (lv_at hl 0 rfl) ?_
  refine lv_iconst (v := nI 2) F.1 F.2.1 dd_Integer_bitCount_16 (by decide) ?_
  refine lv_iushr F.1 F.2.1 dd_Integer_bitCount_17 rfl ?_
  refine lv_ldcw (v := 858993459) F.1 F.2.1 F.2.2.2.1 (F.2.2.2.2 _ wc_Integer_266) dd_Integer_bitCount_18 ?_
  refine lv_iand F.1 F.2.1 dd_Integer_bitCount_21 ?_
  refine lv_iadd F.1 F.2.1 dd_Integer_bitCount_22 ?_
  refine zn_top (y := zs_b2 (zs_b1 x)) (rfl) ?_
  refine lv_istore_n F.1 F.2.1 dd_Integer_bitCount_23 rfl hl (by decide) (lv' := [(0, .int (zs_b2 (zs_b1 x)))]) rfl (fun ls hl => ?_)
  refine lv_iload_n F.1 F.2.1 dd_Integer_bitCount_24 rfl (lv_at hl 0 rfl) ?_
  refine lv_iload_n F.1 F.2.1 dd_Integer_bitCount_25 rfl (lv_at hl 0 rfl) ?_
  refine lv_iconst (v := nI 4) F.1 F.2.1 dd_Integer_bitCount_26 (by decide) ?_
  refine lv_iushr F.1 F.2.1 dd_Integer_bitCount_27 rfl ?_
  refine lv_iadd F.1 F.2.1 dd_Integer_bitCount_28 ?_
  refine lv_ldcw (v := 252645135) F.1 F.2.1 F.2.2.2.1 (F.2.2.2.2 _ wc_Integer_267) dd_Integer_bitCount_29 ?_
  refine lv_iand F.1 F.2.1 dd_Integer_bitCount_32 ?_
  refine zn_top (y := zs_b3 (zs_b2 (zs_b1 x))) (rfl) ?_
  refine lv_istore_n F.1 F.2.1 dd_Integer_bitCount_33 rfl hl (by decide) (lv' := [(0, .int (zs_b3 (zs_b2 (zs_b1 x))))]) rfl (fun ls hl => ?_)
  refine lv_iload_n F.1 F.2.1 dd_Integer_bitCount_34 rfl (lv_at hl 0 rfl) ?_
  refine lv_iload_n F.1 F.2.1 dd_Integer_bitCount_35 rfl (lv_at hl 0 rfl) ?_
  refine lv_bipush (v := nI 8) F.1 F.2.1 dd_Integer_bitCount_36 (by decide) ?_
  refine lv_iushr F.1 F.2.1 dd_Integer_bitCount_38 rfl ?_
  refine lv_iadd F.1 F.2.1 dd_Integer_bitCount_39 ?_
  refine zn_top (y := zs_b4 (zs_b3 (zs_b2 (zs_b1 x)))) (rfl) ?_
  refine lv_istore_n F.1 F.2.1 dd_Integer_bitCount_40 rfl hl (by decide) (lv' := [(0, .int (zs_b4 (zs_b3 (zs_b2 (zs_b1 x)))))]) rfl (fun ls hl => ?_)
  refine lv_iload_n F.1 F.2.1 dd_Integer_bitCount_41 rfl (lv_at hl 0 rfl) ?_
  refine lv_iload_n F.1 F.2.1 dd_Integer_bitCount_42 rfl (lv_at hl 0 rfl) ?_
  refine lv_bipush (v := nI 16) F.1 F.2.1 dd_Integer_bitCount_43 (by decide) ?_
  refine lv_iushr F.1 F.2.1 dd_Integer_bitCount_45 rfl ?_
  refine lv_iadd F.1 F.2.1 dd_Integer_bitCount_46 ?_
  refine zn_top (y := zs_b5 (zs_b4 (zs_b3 (zs_b2 (zs_b1 x))))) (rfl) ?_
  refine lv_istore_n F.1 F.2.1 dd_Integer_bitCount_47 rfl hl (by decide) (lv' := [(0, .int (zs_b5 (zs_b4 (zs_b3 (zs_b2 (zs_b1 x))))))]) rfl (fun ls hl => ?_)
  refine lv_iload_n F.1 F.2.1 dd_Integer_bitCount_48 rfl (lv_at hl 0 rfl) ?_
  refine lv_bipush (v := nI 63) F.1 F.2.1 dd_Integer_bitCount_49 (by decide) ?_
  refine lv_iand F.1 F.2.1 dd_Integer_bitCount_51 ?_
  exact zw_iret F hr hlk hP hS rfl rfl dd_Integer_bitCount_52
set_option maxHeartbeats 4000000 in
set_option maxRecDepth 100000 in
theorem zc_TL_mix (lc : Launch) (G : zw_G) (b0 : Nat) (S : zs_S) (h : Int32) (x : Int32)  : zw_M lc ym_TL_mix bm_TL_mix 3 (some .int) { frames := 0, cells := 0, slots := 0, locals := 0 } G b0 176 (zp_p G b0 S) [.int h, .int x] (zw_Qi G b0 176 (zp_p G b0 S) (zs_mix h x)) := by
  refine zw_of (by decide) (Nat.le_of_ble_eq_true rfl) ?_
  intro p e s m below meth cx ls F hr hlk hE hP hS hl
  have hl : lv_has ls 3 [(0, .int h), (1, .int x)] := hl
  refine lv_iload_n F.1 F.2.1 dd_TL_mix_0 rfl (lv_at hl 0 rfl) ?_
  refine lv_iload_n F.1 F.2.1 dd_TL_mix_1 rfl (lv_at hl 1 rfl) ?_
  refine lv_ixor F.1 F.2.1 dd_TL_mix_2 ?_
  refine lv_ldc (v := 73244475) F.1 F.2.1 F.2.2.2.1 (F.2.2.2.2 _ wc_TL_157) dd_TL_mix_3 ?_
  refine lv_imul F.1 F.2.1 dd_TL_mix_5 ?_
  refine lv_istore_n F.1 F.2.1 dd_TL_mix_6 rfl hl (by decide) (lv' := [(2, .int ((h ^^^ x) * 73244475)), (0, .int h), (1, .int x)]) rfl (fun ls hl => ?_)
  refine lv_iload_n F.1 F.2.1 dd_TL_mix_7 rfl (lv_at hl 0 rfl) ?_
  refine lv_iload_n F.1 F.2.1 dd_TL_mix_8 rfl (lv_at hl 0 rfl) ?_
  refine lv_bipush (v := nI 15) F.1 F.2.1 dd_TL_mix_9 (by decide) ?_
  refine lv_iushr F.1 F.2.1 dd_TL_mix_11 rfl ?_
  refine lv_ixor F.1 F.2.1 dd_TL_mix_12 ?_
  exact zw_iret F hr hlk hP hS rfl rfl dd_TL_mix_13
set_option maxHeartbeats 4000000 in
set_option maxRecDepth 100000 in
theorem zc_Store_endSlot (lc : Launch) (G : zw_G) (b0 : Nat) (S : zs_S) (c : Nat)  : zw_M lc ym_Store_endSlot bm_Store_endSlot 1 (some .int) { frames := 0, cells := 0, slots := 0, locals := 0 } G b0 176 (zp_p G b0 S) [.int (nI c)] (zw_Qi G b0 176 (zp_p G b0 S) (nI c)) := by
  refine zw_of (by decide) (Nat.le_of_ble_eq_true rfl) ?_
  intro p e s m below meth cx ls F hr hlk hE hP hS hl
  have hl : lv_has ls 1 [(0, .int (nI c))] := hl
  refine lv_iload_n F.1 F.2.1 dd_Store_endSlot_0 rfl (lv_at hl 0 rfl) ?_
  exact zw_iret F hr hlk hP hS rfl rfl dd_Store_endSlot_1
set_option maxHeartbeats 4000000 in
set_option maxRecDepth 100000 in
theorem zc_Store_nextSlot (lc : Launch) (G : zw_G) (b0 : Nat) (S : zs_S) (c : Nat)  : zw_M lc ym_Store_nextSlot bm_Store_nextSlot 1 (some .int) { frames := 0, cells := 0, slots := 0, locals := 0 } G b0 176 (zp_p G b0 S) [.int (nI c)] (zw_Qi G b0 176 (zp_p G b0 S) (nI (3 + c))) := by
  refine zw_of (by decide) (Nat.le_of_ble_eq_true rfl) ?_
  intro p e s m below meth cx ls F hr hlk hE hP hS hl
  have hl : lv_has ls 1 [(0, .int (nI c))] := hl
  refine lv_iconst (v := nI 3) F.1 F.2.1 dd_Store_nextSlot_0 (by decide) ?_
  refine lv_iload_n F.1 F.2.1 dd_Store_nextSlot_1 rfl (lv_at hl 0 rfl) ?_
  refine zn_iadd F dd_Store_nextSlot_2 ?_
  exact zw_iret F hr hlk hP hS rfl rfl dd_Store_nextSlot_3
set_option maxHeartbeats 4000000 in
set_option maxRecDepth 100000 in
theorem zc_Store_printSlot (lc : Launch) (G : zw_G) (b0 : Nat) (S : zs_S) (c : Nat) (j : Nat)  : zw_M lc ym_Store_printSlot bm_Store_printSlot 2 (some .int) { frames := 0, cells := 0, slots := 0, locals := 0 } G b0 176 (zp_p G b0 S) [.int (nI c), .int (nI (j + 1))] (zw_Qi G b0 176 (zp_p G b0 S) (nI (6 + 12 * c + j))) := by
  refine zw_of (by decide) (Nat.le_of_ble_eq_true rfl) ?_
  intro p e s m below meth cx ls F hr hlk hE hP hS hl
  have hl : lv_has ls 2 [(0, .int (nI c)), (1, .int (nI (j + 1)))] := hl
  refine lv_bipush (v := nI 6) F.1 F.2.1 dd_Store_printSlot_0 (by decide) ?_
  refine lv_bipush (v := nI 12) F.1 F.2.1 dd_Store_printSlot_2 (by decide) ?_
  refine lv_iload_n F.1 F.2.1 dd_Store_printSlot_4 rfl (lv_at hl 0 rfl) ?_
  refine zn_imul F dd_Store_printSlot_5 ?_
  refine zn_iadd F dd_Store_printSlot_6 ?_
  refine lv_iload_n F.1 F.2.1 dd_Store_printSlot_7 rfl (lv_at hl 1 rfl) ?_
  refine zn_iadd F dd_Store_printSlot_8 ?_
  refine lv_iconst (v := nI 1) F.1 F.2.1 dd_Store_printSlot_9 (by decide) ?_
  refine zn_isub F dd_Store_printSlot_10 (by omega) ?_
  refine zn_top (y := nI (6 + 12 * c + j)) (congrArg nI (by omega)) ?_
  exact zw_iret F hr hlk hP hS rfl rfl dd_Store_printSlot_11
set_option maxHeartbeats 4000000 in
set_option maxRecDepth 100000 in
theorem zc_Store_receiptSlot (lc : Launch) (G : zw_G) (b0 : Nat) (S : zs_S) (c : Nat) (j : Nat)  : zw_M lc ym_Store_receiptSlot bm_Store_receiptSlot 2 (some .int) { frames := 0, cells := 0, slots := 0, locals := 0 } G b0 176 (zp_p G b0 S) [.int (nI c), .int (nI (j + 1))] (zw_Qi G b0 176 (zp_p G b0 S) (nI (42 + 12 * c + j))) := by
  refine zw_of (by decide) (Nat.le_of_ble_eq_true rfl) ?_
  intro p e s m below meth cx ls F hr hlk hE hP hS hl
  have hl : lv_has ls 2 [(0, .int (nI c)), (1, .int (nI (j + 1)))] := hl
  refine lv_bipush (v := nI 42) F.1 F.2.1 dd_Store_receiptSlot_0 (by decide) ?_
  refine lv_bipush (v := nI 12) F.1 F.2.1 dd_Store_receiptSlot_2 (by decide) ?_
  refine lv_iload_n F.1 F.2.1 dd_Store_receiptSlot_4 rfl (lv_at hl 0 rfl) ?_
  refine zn_imul F dd_Store_receiptSlot_5 ?_
  refine zn_iadd F dd_Store_receiptSlot_6 ?_
  refine lv_iload_n F.1 F.2.1 dd_Store_receiptSlot_7 rfl (lv_at hl 1 rfl) ?_
  refine zn_iadd F dd_Store_receiptSlot_8 ?_
  refine lv_iconst (v := nI 1) F.1 F.2.1 dd_Store_receiptSlot_9 (by decide) ?_
  refine zn_isub F dd_Store_receiptSlot_10 (by omega) ?_
  refine zn_top (y := nI (42 + 12 * c + j)) (congrArg nI (by omega)) ?_
  exact zw_iret F hr hlk hP hS rfl rfl dd_Store_receiptSlot_11
set_option maxHeartbeats 4000000 in
set_option maxRecDepth 100000 in
theorem zc_Store_answerSlot (lc : Launch) (G : zw_G) (b0 : Nat) (S : zs_S) (c : Nat) (j : Nat)  : zw_M lc ym_Store_answerSlot bm_Store_answerSlot 2 (some .int) { frames := 0, cells := 0, slots := 0, locals := 0 } G b0 176 (zp_p G b0 S) [.int (nI c), .int (nI (j + 1))] (zw_Qi G b0 176 (zp_p G b0 S) (nI (78 + 12 * c + j))) := by
  refine zw_of (by decide) (Nat.le_of_ble_eq_true rfl) ?_
  intro p e s m below meth cx ls F hr hlk hE hP hS hl
  have hl : lv_has ls 2 [(0, .int (nI c)), (1, .int (nI (j + 1)))] := hl
  refine lv_bipush (v := nI 78) F.1 F.2.1 dd_Store_answerSlot_0 (by decide) ?_
  refine lv_bipush (v := nI 12) F.1 F.2.1 dd_Store_answerSlot_2 (by decide) ?_
  refine lv_iload_n F.1 F.2.1 dd_Store_answerSlot_4 rfl (lv_at hl 0 rfl) ?_
  refine zn_imul F dd_Store_answerSlot_5 ?_
  refine zn_iadd F dd_Store_answerSlot_6 ?_
  refine lv_iload_n F.1 F.2.1 dd_Store_answerSlot_7 rfl (lv_at hl 1 rfl) ?_
  refine zn_iadd F dd_Store_answerSlot_8 ?_
  refine lv_iconst (v := nI 1) F.1 F.2.1 dd_Store_answerSlot_9 (by decide) ?_
  refine zn_isub F dd_Store_answerSlot_10 (by omega) ?_
  refine zn_top (y := nI (78 + 12 * c + j)) (congrArg nI (by omega)) ?_
  exact zw_iret F hr hlk hP hS rfl rfl dd_Store_answerSlot_11
set_option maxHeartbeats 4000000 in
set_option maxRecDepth 100000 in
theorem zc_Store_keyOf (lc : Launch) (G : zw_G) (b0 : Nat) (S : zs_S) (k : Nat) (hk : k < 114) : zw_M lc ym_Store_keyOf bm_Store_keyOf 5 (some .int) { frames := 0, cells := 0, slots := 0, locals := 0 } G b0 176 (zp_p G b0 S) [.int (nI k)] (zw_Qi G b0 176 (zp_p G b0 S) (zs_key k)) := by
  refine zw_of (by decide) (Nat.le_of_ble_eq_true rfl) ?_
  intro p e s m below meth cx ls F hr hlk hE hP hS hl
  have hl : lv_has ls 5 [(0, .int (nI k))] := hl
  refine lv_iload_n F.1 F.2.1 dd_Store_keyOf_0 rfl (lv_at hl 0 rfl) ?_
  refine lv_iconst (v := nI 3) F.1 F.2.1 dd_Store_keyOf_1 (by decide) ?_
  refine zn_cge F dd_Store_keyOf_2 (tgt := 11) rfl (by omega) (by omega) (fun h2 => ?_) (fun h2 => ?_)
  · refine lv_iload_n F.1 F.2.1 dd_Store_keyOf_11 rfl (lv_at hl 0 rfl) ?_
    refine lv_bipush (v := nI 6) F.1 F.2.1 dd_Store_keyOf_12 (by decide) ?_
    refine zn_cge F dd_Store_keyOf_14 (tgt := 25) rfl (by omega) (by omega) (fun h14 => ?_) (fun h14 => ?_)
    · refine lv_iload_n F.1 F.2.1 dd_Store_keyOf_25 rfl (lv_at hl 0 rfl) ?_
      refine lv_bipush (v := nI 6) F.1 F.2.1 dd_Store_keyOf_26 (by decide) ?_
      refine zn_isub F dd_Store_keyOf_28 (by omega) ?_
      refine lv_bipush (v := nI 36) F.1 F.2.1 dd_Store_keyOf_29 (by decide) ?_
      refine zn_idiv F dd_Store_keyOf_31 (by omega) (by decide) (by decide) ?_
      refine lv_istore_n F.1 F.2.1 dd_Store_keyOf_32 rfl hl (by decide) (lv' := [(1, .int (nI ((k - 6) / 36))), (0, .int (nI k))]) rfl (fun ls hl => ?_)
      refine lv_iload_n F.1 F.2.1 dd_Store_keyOf_33 rfl (lv_at hl 1 rfl) ?_
      refine lv_bipush (v := nI 6) F.1 F.2.1 dd_Store_keyOf_34 (by decide) ?_
      refine zn_isub F dd_Store_keyOf_36 (by omega) ?_
      refine lv_bipush (v := nI 36) F.1 F.2.1 dd_Store_keyOf_37 (by decide) ?_
      refine zn_irem F dd_Store_keyOf_39 (by omega) (by decide) (by decide) ?_
      refine lv_istore_n F.1 F.2.1 dd_Store_keyOf_40 rfl hl (by decide) (lv' := [(2, .int (nI ((k - 6) % 36))), (1, .int (nI ((k - 6) / 36))), (0, .int (nI k))]) rfl (fun ls hl => ?_)
      refine lv_iload_n F.1 F.2.1 dd_Store_keyOf_41 rfl (lv_at hl 0 rfl) ?_
      refine lv_bipush (v := nI 12) F.1 F.2.1 dd_Store_keyOf_42 (by decide) ?_
      refine zn_idiv F dd_Store_keyOf_44 (by omega) (by decide) (by decide) ?_
      refine lv_istore_n F.1 F.2.1 dd_Store_keyOf_45 rfl hl (by decide) (lv' := [(3, .int (nI (((k - 6) % 36) / 12))), (2, .int (nI ((k - 6) % 36))), (1, .int (nI ((k - 6) / 36))), (0, .int (nI k))]) rfl (fun ls hl => ?_)
      refine lv_iload_n F.1 F.2.1 dd_Store_keyOf_46 rfl (lv_at hl 1 rfl) ?_
      refine lv_bipush (v := nI 12) F.1 F.2.1 dd_Store_keyOf_47 (by decide) ?_
      refine zn_irem F dd_Store_keyOf_49 (by omega) (by decide) (by decide) ?_
      refine lv_iconst (v := nI 1) F.1 F.2.1 dd_Store_keyOf_50 (by decide) ?_
      refine zn_iadd F dd_Store_keyOf_51 ?_
      refine lv_istore F.1 F.2.1 dd_Store_keyOf_52 hl (by decide) (lv' := [(4, .int (nI ((((k - 6) % 36) % 12) + 1))), (3, .int (nI (((k - 6) % 36) / 12))), (2, .int (nI ((k - 6) % 36))), (1, .int (nI ((k - 6) / 36))), (0, .int (nI k))]) rfl (fun ls hl => ?_)
      refine lv_sipush (v := nI 12288) F.1 F.2.1 dd_Store_keyOf_54 (by decide) ?_
      refine lv_sipush (v := nI 4096) F.1 F.2.1 dd_Store_keyOf_57 (by decide) ?_
      refine lv_iload_n F.1 F.2.1 dd_Store_keyOf_60 rfl (lv_at hl 3 rfl) ?_
      refine zn_imul F dd_Store_keyOf_61 ?_
      refine zn_iadd F dd_Store_keyOf_62 ?_
      refine lv_bipush (v := nI 64) F.1 F.2.1 dd_Store_keyOf_63 (by decide) ?_
      refine lv_iload_n F.1 F.2.1 dd_Store_keyOf_65 rfl (lv_at hl 1 rfl) ?_
      refine zn_imul F dd_Store_keyOf_66 ?_
      refine zn_iadd F dd_Store_keyOf_67 ?_
      refine lv_iload F.1 F.2.1 dd_Store_keyOf_68 (lv_at hl 0 rfl) ?_
      refine zn_iadd F dd_Store_keyOf_70 ?_
      exact zw_iret F hr hlk hP hS rfl (by rw [zs_key, if_pos h2, if_pos h14]) dd_Store_keyOf_71
    · refine lv_sipush (v := nI 8192) F.1 F.2.1 dd_Store_keyOf_17 (by decide) ?_
      refine lv_iload_n F.1 F.2.1 dd_Store_keyOf_20 rfl (lv_at hl 0 rfl) ?_
      refine zn_iadd F dd_Store_keyOf_21 ?_
      refine lv_iconst (v := nI 3) F.1 F.2.1 dd_Store_keyOf_22 (by decide) ?_
      refine zn_isub F dd_Store_keyOf_23 (by omega) ?_
      exact zw_iret F hr hlk hP hS rfl (by rw [zs_key, if_pos h2, if_neg h14]) dd_Store_keyOf_24
  · refine lv_sipush (v := nI 4096) F.1 F.2.1 dd_Store_keyOf_5 (by decide) ?_
    refine lv_iload_n F.1 F.2.1 dd_Store_keyOf_8 rfl (lv_at hl 0 rfl) ?_
    refine zn_iadd F dd_Store_keyOf_9 ?_
    exact zw_iret F hr hlk hP hS rfl (by rw [zs_key, if_neg h2]) dd_Store_keyOf_10
set_option maxHeartbeats 4000000 in
set_option maxRecDepth 100000 in
theorem zc_Store_put (lc : Launch) (G : zw_G) (b0 : Nat) (S : zs_S) (i : Nat) (j : Nat) (k : Nat) (v : Int32) (hi : i < 2) (hj : j < 9) (hk : k < 114) : zw_M lc ym_Store_put bm_Store_put 3 none { frames := 0, cells := 0, slots := 0, locals := 0 } G b0 176 (zp_p G b0 S) [.ref (b0 + zp_o 3 i j), .int (nI k), .int v] (zw_Qv G b0 176 (zp_p G b0 (zs_u (zs_u S 4 i j k v) 5 i j k (nI 1)))) := by
  refine zw_of (by decide) (Nat.le_of_ble_eq_true rfl) ?_
  intro p e s m below meth cx ls F hr hlk hE hP hS hl
  have hl : lv_has ls 3 [(0, .ref (b0 + zp_o 3 i j)), (1, .int (nI k)), (2, .int v)] := hl
  refine lv_aload_n F.1 F.2.1 dd_Store_put_0 rfl (lv_at hl 0 rfl) ?_
  refine zc_gF (t := 3) (i := i) (j := j) F hE hP ⟨by decide, (show i < 2 by omega), (show j < 9 by omega)⟩ rfl rfl zi_Store 0 (by decide) rfl wf_Store_11 rfl dd_Store_put_1 ?_
  refine lv_iload_n F.1 F.2.1 dd_Store_put_4 rfl (lv_at hl 1 rfl) ?_
  refine lv_iload_n F.1 F.2.1 dd_Store_put_5 rfl (lv_at hl 2 rfl) ?_
  refine zc_iast (t := 4) (i := i) (j := j) (k := k) (N := 114) F hE hP hS (fun _ h => h) ⟨by decide, (show i < 2 by omega), (show j < 9 by omega)⟩ (fun _ => rfl) (by omega) (by decide)  dd_Store_put_6 (fun H locs hP hS => ?_)
  refine lv_aload_n F.1 F.2.1 dd_Store_put_7 rfl (lv_at hl 0 rfl) ?_
  refine zc_gF (t := 3) (i := i) (j := j) F hE hP ⟨by decide, (show i < 2 by omega), (show j < 9 by omega)⟩ rfl rfl zi_Store 1 (by decide) rfl wf_Store_15 rfl dd_Store_put_8 ?_
  refine lv_iload_n F.1 F.2.1 dd_Store_put_11 rfl (lv_at hl 1 rfl) ?_
  refine lv_iconst (v := nI 1) F.1 F.2.1 dd_Store_put_12 (by decide) ?_
  refine zc_zast (t := 5) (i := i) (j := j) (k := k) (N := 114) F hE hP hS (fun _ h => h) ⟨by decide, (show i < 2 by omega), (show j < 9 by omega)⟩ (fun _ => rfl) (by omega) (by decide) (by decide) dd_Store_put_13 (fun H locs hP hS => ?_)
  exact zw_vret F hr hlk hP hS rfl dd_Store_put_14
set_option maxHeartbeats 4000000 in
set_option maxRecDepth 100000 in
theorem zc_Store_drop (lc : Launch) (G : zw_G) (b0 : Nat) (S : zs_S) (i : Nat) (j : Nat) (k : Nat) (hi : i < 2) (hj : j < 9) (hk : k < 114) : zw_M lc ym_Store_drop bm_Store_drop 2 none { frames := 0, cells := 0, slots := 0, locals := 0 } G b0 176 (zp_p G b0 S) [.ref (b0 + zp_o 3 i j), .int (nI k)] (zw_Qv G b0 176 (zp_p G b0 (zs_u (zs_u S 4 i j k (nI 0)) 5 i j k (nI 0)))) := by
  refine zw_of (by decide) (Nat.le_of_ble_eq_true rfl) ?_
  intro p e s m below meth cx ls F hr hlk hE hP hS hl
  have hl : lv_has ls 2 [(0, .ref (b0 + zp_o 3 i j)), (1, .int (nI k))] := hl
  refine lv_aload_n F.1 F.2.1 dd_Store_drop_0 rfl (lv_at hl 0 rfl) ?_
  refine zc_gF (t := 3) (i := i) (j := j) F hE hP ⟨by decide, (show i < 2 by omega), (show j < 9 by omega)⟩ rfl rfl zi_Store 0 (by decide) rfl wf_Store_11 rfl dd_Store_drop_1 ?_
  refine lv_iload_n F.1 F.2.1 dd_Store_drop_4 rfl (lv_at hl 1 rfl) ?_
  refine lv_iconst (v := nI 0) F.1 F.2.1 dd_Store_drop_5 (by decide) ?_
  refine zc_iast (t := 4) (i := i) (j := j) (k := k) (N := 114) F hE hP hS (fun _ h => h) ⟨by decide, (show i < 2 by omega), (show j < 9 by omega)⟩ (fun _ => rfl) (by omega) (by decide)  dd_Store_drop_6 (fun H locs hP hS => ?_)
  refine lv_aload_n F.1 F.2.1 dd_Store_drop_7 rfl (lv_at hl 0 rfl) ?_
  refine zc_gF (t := 3) (i := i) (j := j) F hE hP ⟨by decide, (show i < 2 by omega), (show j < 9 by omega)⟩ rfl rfl zi_Store 1 (by decide) rfl wf_Store_15 rfl dd_Store_drop_8 ?_
  refine lv_iload_n F.1 F.2.1 dd_Store_drop_11 rfl (lv_at hl 1 rfl) ?_
  refine lv_iconst (v := nI 0) F.1 F.2.1 dd_Store_drop_12 (by decide) ?_
  refine zc_zast (t := 5) (i := i) (j := j) (k := k) (N := 114) F hE hP hS (fun _ h => h) ⟨by decide, (show i < 2 by omega), (show j < 9 by omega)⟩ (fun _ => rfl) (by omega) (by decide) (by decide) dd_Store_drop_13 (fun H locs hP hS => ?_)
  exact zw_vret F hr hlk hP hS rfl dd_Store_drop_14
set_option maxHeartbeats 4000000 in
set_option maxRecDepth 100000 in
theorem zc_Store_has (lc : Launch) (G : zw_G) (b0 : Nat) (S : zs_S) (i : Nat) (j : Nat) (k : Nat) (hi : i < 2) (hj : j < 9) (hk : k < 114) (h01 : S 5 i j k = 0 ∨ S 5 i j k = 1) : zw_M lc ym_Store_has bm_Store_has 2 (some .boolean) { frames := 0, cells := 0, slots := 0, locals := 0 } G b0 176 (zp_p G b0 S) [.ref (b0 + zp_o 3 i j), .int (nI k)] (zw_Qi G b0 176 (zp_p G b0 S) (S 5 i j k)) := by
  refine zw_of (by decide) (Nat.le_of_ble_eq_true rfl) ?_
  intro p e s m below meth cx ls F hr hlk hE hP hS hl
  have hl : lv_has ls 2 [(0, .ref (b0 + zp_o 3 i j)), (1, .int (nI k))] := hl
  refine lv_aload_n F.1 F.2.1 dd_Store_has_0 rfl (lv_at hl 0 rfl) ?_
  refine zc_gF (t := 3) (i := i) (j := j) F hE hP ⟨by decide, (show i < 2 by omega), (show j < 9 by omega)⟩ rfl rfl zi_Store 1 (by decide) rfl wf_Store_15 rfl dd_Store_has_1 ?_
  refine lv_iload_n F.1 F.2.1 dd_Store_has_4 rfl (lv_at hl 1 rfl) ?_
  refine zc_zald (t := 5) (i := i) (j := j) (k := k) (N := 114) F hE hP ⟨by decide, (show i < 2 by omega), (show j < 9 by omega)⟩ (fun _ => rfl) (by omega) (by decide) dd_Store_has_5 ?_
  exact zw_zret F hr hlk hP hS rfl h01 rfl dd_Store_has_6
set_option maxHeartbeats 4000000 in
set_option maxRecDepth 100000 in
theorem zc_Store_valueIn (lc : Launch) (G : zw_G) (b0 : Nat) (S : zs_S) (i : Nat) (j : Nat) (k : Nat) (hi : i < 2) (hj : j < 9) (hk : k < 114) : zw_M lc ym_Store_valueIn bm_Store_valueIn 2 (some .int) { frames := 0, cells := 0, slots := 0, locals := 0 } G b0 176 (zp_p G b0 S) [.ref (b0 + zp_o 3 i j), .int (nI k)] (zw_Qi G b0 176 (zp_p G b0 S) (S 4 i j k)) := by
  refine zw_of (by decide) (Nat.le_of_ble_eq_true rfl) ?_
  intro p e s m below meth cx ls F hr hlk hE hP hS hl
  have hl : lv_has ls 2 [(0, .ref (b0 + zp_o 3 i j)), (1, .int (nI k))] := hl
  refine lv_aload_n F.1 F.2.1 dd_Store_valueIn_0 rfl (lv_at hl 0 rfl) ?_
  refine zc_gF (t := 3) (i := i) (j := j) F hE hP ⟨by decide, (show i < 2 by omega), (show j < 9 by omega)⟩ rfl rfl zi_Store 0 (by decide) rfl wf_Store_11 rfl dd_Store_valueIn_1 ?_
  refine lv_iload_n F.1 F.2.1 dd_Store_valueIn_4 rfl (lv_at hl 1 rfl) ?_
  refine zc_iald (t := 4) (i := i) (j := j) (k := k) (N := 114) F hE hP ⟨by decide, (show i < 2 by omega), (show j < 9 by omega)⟩ (fun _ => rfl) (by omega) (by decide) dd_Store_valueIn_5 ?_
  exact zw_iret F hr hlk hP hS rfl rfl dd_Store_valueIn_6
set_option maxHeartbeats 4000000 in
set_option maxRecDepth 100000 in
theorem zc_Client_learn (lc : Launch) (G : zw_G) (b0 : Nat) (S : zs_S) (i : Nat) (q : Nat) (hi : i < 2) (hq1 : 1 ≤ q) (hq2 : q ≤ 512) : zw_M lc ym_Client_learn bm_Client_learn 2 none { frames := 1, cells := 0, slots := 0, locals := 14 } G b0 176 (zp_p G b0 S) [.ref (b0 + zp_o 8 i 0), .int (nI q)] (zw_Qv G b0 176 (zp_p G b0 (zs_ln S i q))) := by
  refine zw_of (by decide) (Nat.le_of_ble_eq_true rfl) ?_
  intro p e s m below meth cx ls F hr hlk hE hP hS hl
  have hl : lv_has ls 2 [(0, .ref (b0 + zp_o 8 i 0)), (1, .int (nI q))] := hl
  refine lv_iload_n F.1 F.2.1 dd_Client_learn_0 rfl (lv_at hl 1 rfl) ?_
  refine lv_iconst (v := nI 1) F.1 F.2.1 dd_Client_learn_1 (by decide) ?_
  refine zn_clt F dd_Client_learn_2 (tgt := 12) rfl (by omega) (by omega) (fun h2 => absurd h2 (by omega)) (fun h2 => ?_)
  refine lv_iload_n F.1 F.2.1 dd_Client_learn_5 rfl (lv_at hl 1 rfl) ?_
  refine lv_sipush (v := nI 512) F.1 F.2.1 dd_Client_learn_6 (by decide) ?_
  refine zn_cle F dd_Client_learn_9 (tgt := 13) rfl (by omega) (by omega) (fun h9 => ?_) (fun h9 => absurd h9 (by omega))
  refine lv_aload_n F.1 F.2.1 dd_Client_learn_13 rfl (lv_at hl 0 rfl) ?_
  refine zc_gF (t := 8) (i := i) (j := 0) F hE hP ⟨by decide, (show i < 2 by omega), (show 0 < 1 by omega)⟩ rfl rfl zi_Client 0 (by decide) rfl wf_Client_9 rfl dd_Client_learn_14 ?_
  refine lv_iload_n F.1 F.2.1 dd_Client_learn_17 rfl (lv_at hl 1 rfl) ?_
  refine lv_iconst (v := nI 1) F.1 F.2.1 dd_Client_learn_18 (by decide) ?_
  refine zc_zast (t := 9) (i := i) (j := 0) (k := q) (N := 513) F hE hP hS (fun _ h => h) ⟨by decide, (show i < 2 by omega), (show 0 < 1 by omega)⟩ (fun _ => rfl) (by omega) (by decide) (by decide) dd_Client_learn_19 (fun H locs hP hS => ?_)
  refine lv_aload_n F.1 F.2.1 dd_Client_learn_20 rfl (lv_at hl 0 rfl) ?_
  refine lv_aload_n F.1 F.2.1 dd_Client_learn_21 rfl (lv_at hl 0 rfl) ?_
  refine zc_gF (t := 8) (i := i) (j := 0) F hE hP ⟨by decide, (show i < 2 by omega), (show 0 < 1 by omega)⟩ rfl rfl zi_Client 1 (by decide) rfl wf_Client_15 rfl dd_Client_learn_22 ?_
  refine zn_top (y := S 8 i 0 0) (by rw [zs_ut (by decide)]) ?_
  refine lv_iload_n F.1 F.2.1 dd_Client_learn_25 rfl (lv_at hl 1 rfl) ?_
  refine va_mmax F.1 F.2.1 (F.2.2.1.trans hl.1.symm) F.2.2.2.1 (F.2.2.2.2 _ wl_Client_19) (F.2.2.2.2 _ wx_mathS) (F.2.2.2.2 _ wx_mathI) (F.2.2.2.2 _ wx_mathC) (Nat.le_of_ble_eq_true rfl) (Nat.le_of_ble_eq_true rfl) (Nat.zero_le _) (Nat.zero_le _) dd_Client_learn_26 ?_
  refine zc_pF (t := 8) (i := i) (j := 0) (kf := 0) F hE hP hS (fun _ h => h) ⟨by decide, (show i < 2 by omega), (show 0 < 1 by omega)⟩ rfl rfl zi_Client zy_Client zj_Client zl_Client 1 (by decide) rfl rfl wf_Client_15 (by decide +kernel) (Nat.le_of_ble_eq_true rfl) rfl dd_Client_learn_29 (fun H locs hP hS => ?_)
  exact zw_vret F hr hlk hP hS rfl dd_Client_learn_32
set_option maxHeartbeats 4000000 in
set_option maxRecDepth 100000 in
theorem zc_Client_hasHeader (lc : Launch) (G : zw_G) (b0 : Nat) (S : zs_S) (i : Nat) (h : Int32) (hi : i < 2) : zw_M lc ym_Client_hasHeader bm_Client_hasHeader 2 (some .boolean) { frames := 0, cells := 0, slots := 0, locals := 0 } G b0 176 (zp_p G b0 S) [.ref (b0 + zp_o 8 i 0), .int h] (zw_Qi G b0 176 (zp_p G b0 S) (zn_b (zs_hd S i h))) := by
  refine zw_of (by decide) (Nat.le_of_ble_eq_true rfl) ?_
  intro p e s m below meth cx ls F hr hlk hE hP hS hl
  have hl : lv_has ls 2 [(0, .ref (b0 + zp_o 8 i 0)), (1, .int h)] := hl
  refine lv_iload_n F.1 F.2.1 dd_Client_hasHeader_0 rfl (lv_at hl 1 rfl) ?_
  refine lv_iconst (v := nI 1) F.1 F.2.1 dd_Client_hasHeader_1 (by decide) ?_
  refine lv_icmp_lt F.1 F.2.1 dd_Client_hasHeader_2 (tgt := 25) rfl (fun h2 => ?_) (fun h2 => ?_)
  · refine lv_iconst (v := nI 0) F.1 F.2.1 dd_Client_hasHeader_25 (by decide) ?_
    exact zw_zret F hr hlk hP hS rfl (by decide) ((zn_b0 (fun z => z.1 h2)).symm) dd_Client_hasHeader_26
  · refine lv_iload_n F.1 F.2.1 dd_Client_hasHeader_5 rfl (lv_at hl 1 rfl) ?_
    refine lv_sipush (v := nI 512) F.1 F.2.1 dd_Client_hasHeader_6 (by decide) ?_
    refine lv_icmp_gt F.1 F.2.1 dd_Client_hasHeader_9 (tgt := 25) rfl (fun h9 => ?_) (fun h9 => ?_)
    · refine lv_iconst (v := nI 0) F.1 F.2.1 dd_Client_hasHeader_25 (by decide) ?_
      exact zw_zret F hr hlk hP hS rfl (by decide) ((zn_b0 (fun z => z.2.1 h9)).symm) dd_Client_hasHeader_26
    · obtain ⟨q, hq, rfl⟩ := nI_of (zn_n0 h2)
      have hq5 : q ≤ 512 := zn_le512 hq h9
      refine lv_aload_n F.1 F.2.1 dd_Client_hasHeader_12 rfl (lv_at hl 0 rfl) ?_
      refine zc_gF (t := 8) (i := i) (j := 0) F hE hP ⟨by decide, (show i < 2 by omega), (show 0 < 1 by omega)⟩ rfl rfl zi_Client 0 (by decide) rfl wf_Client_9 rfl dd_Client_hasHeader_13 ?_
      refine lv_iload_n F.1 F.2.1 dd_Client_hasHeader_16 rfl (lv_at hl 1 rfl) ?_
      refine zc_zald (t := 9) (i := i) (j := 0) (k := q) (N := 513) F hE hP ⟨by decide, (show i < 2 by omega), (show 0 < 1 by omega)⟩ (fun _ => rfl) (by omega) (by decide) dd_Client_hasHeader_17 ?_
      refine lv_if_eq F.1 F.2.1 dd_Client_hasHeader_18 (tgt := 25) rfl (fun h18 => ?_) (fun h18 => ?_)
      · refine lv_iconst (v := nI 0) F.1 F.2.1 dd_Client_hasHeader_25 (by decide) ?_
        exact zw_zret F hr hlk hP hS rfl (by decide) ((zn_b0 (fun z => z.2.2 (by rw [nI_clamp hq]; exact h18))).symm) dd_Client_hasHeader_26
      · refine lv_iconst (v := nI 1) F.1 F.2.1 dd_Client_hasHeader_21 (by decide) ?_
        refine lv_goto F.1 F.2.1 dd_Client_hasHeader_22 (tgt := 26) rfl ?_
        exact zw_zret F hr hlk hP hS rfl (by decide) ((zn_b1 ⟨h2, h9, by rw [nI_clamp hq]; exact h18⟩).symm) dd_Client_hasHeader_26
set_option maxHeartbeats 4000000 in
set_option maxRecDepth 100000 in
theorem zc_Packet_goesBack (lc : Launch) (G : zw_G) (b0 : Nat) (S : zs_S) (i : Nat) (j : Nat) (hi : i < 2) (hj : j < 36) : zw_M lc ym_Packet_goesBack bm_Packet_goesBack 1 (some .boolean) { frames := 0, cells := 0, slots := 0, locals := 0 } G b0 176 (zp_p G b0 S) [.ref (b0 + zp_o 20 i j)] (zw_Qi G b0 176 (zp_p G b0 S) (zn_b (¬ S 20 i j 5 ≤ 0))) := by
  refine zw_of (by decide) (Nat.le_of_ble_eq_true rfl) ?_
  intro p e s m below meth cx ls F hr hlk hE hP hS hl
  have hl : lv_has ls 1 [(0, .ref (b0 + zp_o 20 i j))] := hl
  refine lv_aload_n F.1 F.2.1 dd_Packet_goesBack_0 rfl (lv_at hl 0 rfl) ?_
  refine zc_gF (t := 20) (i := i) (j := j) F hE hP ⟨by decide, (show i < 2 by omega), (show j < 36 by omega)⟩ rfl rfl zi_Packet 5 (by decide) rfl wf_Packet_9 rfl dd_Packet_goesBack_1 ?_
  refine lv_if_le F.1 F.2.1 dd_Packet_goesBack_4 (tgt := 11) rfl (fun h4 => ?_) (fun h4 => ?_)
  · refine lv_iconst (v := nI 0) F.1 F.2.1 dd_Packet_goesBack_11 (by decide) ?_
    exact zw_zret F hr hlk hP hS rfl (by decide) ((zn_b0 (fun z => z h4)).symm) dd_Packet_goesBack_12
  · refine lv_iconst (v := nI 1) F.1 F.2.1 dd_Packet_goesBack_7 (by decide) ?_
    refine lv_goto F.1 F.2.1 dd_Packet_goesBack_8 (tgt := 12) rfl ?_
    exact zw_zret F hr hlk hP hS rfl (by decide) ((zn_b1 h4).symm) dd_Packet_goesBack_12
set_option maxHeartbeats 4000000 in
set_option maxRecDepth 100000 in
theorem zc_Packet_printWith (lc : Launch) (G : zw_G) (b0 : Nat) (S : zs_S) (i : Nat) (j : Nat) (x : Int32) (hi : i < 2) (hj : j < 36) : zw_M lc ym_Packet_printWith bm_Packet_printWith 3 (some .int) { frames := 1, cells := 0, slots := 0, locals := 22 } G b0 176 (zp_p G b0 S) [.ref (b0 + zp_o 20 i j), .int x] (zw_Qi G b0 176 (zp_p G b0 S) (zs_print (S 20 i j) x)) := by
  refine zw_of (by decide) (Nat.le_of_ble_eq_true rfl) ?_
  intro p e s m below meth cx ls F hr hlk hE hP hS hl
  have hl : lv_has ls 3 [(0, .ref (b0 + zp_o 20 i j)), (1, .int x)] := hl
  refine lv_iconst (v := nI 3) F.1 F.2.1 dd_Packet_printWith_0 (by decide) ?_
  refine lv_aload_n F.1 F.2.1 dd_Packet_printWith_1 rfl (lv_at hl 0 rfl) ?_
  refine zc_gF (t := 20) (i := i) (j := j) F hE hP ⟨by decide, (show i < 2 by omega), (show j < 36 by omega)⟩ rfl rfl zi_Packet 0 (by decide) rfl wf_Packet_15 rfl dd_Packet_printWith_2 ?_
  refine zw_goi (zw_rSN F hE hP (zc_TL_mix lc G b0 S (nI 3) (S 20 i j 0)) zk_TL_mix za_TL_mix wl_Packet_18 ⟨rfl, rfl, Nat.le_of_ble_eq_true rfl, Nat.le_of_ble_eq_true rfl⟩ hl.1 rfl (Nat.le_of_ble_eq_true rfl) ⟨Nat.zero_le _, Nat.zero_le _⟩ dd_Packet_printWith_5) hS (fun _ h => h) (fun H locs hP _ _ hS => ?_)
  refine lv_aload_n F.1 F.2.1 dd_Packet_printWith_8 rfl (lv_at hl 0 rfl) ?_
  refine zc_gF (t := 20) (i := i) (j := j) F hE hP ⟨by decide, (show i < 2 by omega), (show j < 36 by omega)⟩ rfl rfl zi_Packet 1 (by decide) rfl wf_Packet_22 rfl dd_Packet_printWith_9 ?_
  refine lv_iload_n F.1 F.2.1 dd_Packet_printWith_12 rfl (lv_at hl 1 rfl) ?_
  refine lv_iadd F.1 F.2.1 dd_Packet_printWith_13 ?_
  refine zw_goi (zw_rSN F hE hP (zc_TL_mix lc G b0 S (zs_mix (nI 3) (S 20 i j 0)) ((S 20 i j 1) + x)) zk_TL_mix za_TL_mix wl_Packet_18 ⟨rfl, rfl, Nat.le_of_ble_eq_true rfl, Nat.le_of_ble_eq_true rfl⟩ hl.1 rfl (Nat.le_of_ble_eq_true rfl) ⟨Nat.zero_le _, Nat.zero_le _⟩ dd_Packet_printWith_14) hS (fun _ h => h) (fun H locs hP _ _ hS => ?_)
  refine lv_istore_n F.1 F.2.1 dd_Packet_printWith_17 rfl hl (by decide) (lv' := [(2, .int (zs_mix (zs_mix (nI 3) (S 20 i j 0)) ((S 20 i j 1) + x))), (0, .ref (b0 + zp_o 20 i j)), (1, .int x)]) rfl (fun ls hl => ?_)
  refine lv_iload_n F.1 F.2.1 dd_Packet_printWith_18 rfl (lv_at hl 0 rfl) ?_
  refine lv_iconst (v := nI 4) F.1 F.2.1 dd_Packet_printWith_19 (by decide) ?_
  refine lv_aload_n F.1 F.2.1 dd_Packet_printWith_20 rfl (lv_at hl 1 rfl) ?_
  refine zc_gF (t := 20) (i := i) (j := j) F hE hP ⟨by decide, (show i < 2 by omega), (show j < 36 by omega)⟩ rfl rfl zi_Packet 2 (by decide) rfl wf_Packet_25 rfl dd_Packet_printWith_21 ?_
  refine lv_imul F.1 F.2.1 dd_Packet_printWith_24 ?_
  refine lv_aload_n F.1 F.2.1 dd_Packet_printWith_25 rfl (lv_at hl 1 rfl) ?_
  refine zc_gF (t := 20) (i := i) (j := j) F hE hP ⟨by decide, (show i < 2 by omega), (show j < 36 by omega)⟩ rfl rfl zi_Packet 3 (by decide) rfl wf_Packet_28 rfl dd_Packet_printWith_26 ?_
  refine lv_iadd F.1 F.2.1 dd_Packet_printWith_29 ?_
  refine zw_goi (zw_rSN F hE hP (zc_TL_mix lc G b0 S (zs_mix (zs_mix (nI 3) (S 20 i j 0)) ((S 20 i j 1) + x)) (((nI 4) * (S 20 i j 2)) + (S 20 i j 3))) zk_TL_mix za_TL_mix wl_Packet_18 ⟨rfl, rfl, Nat.le_of_ble_eq_true rfl, Nat.le_of_ble_eq_true rfl⟩ hl.1 rfl (Nat.le_of_ble_eq_true rfl) ⟨Nat.zero_le _, Nat.zero_le _⟩ dd_Packet_printWith_30) hS (fun _ h => h) (fun H locs hP _ _ hS => ?_)
  refine lv_istore_n F.1 F.2.1 dd_Packet_printWith_33 rfl hl (by decide) (lv' := [(2, .int (zs_mix (zs_mix (zs_mix (nI 3) (S 20 i j 0)) ((S 20 i j 1) + x)) (((nI 4) * (S 20 i j 2)) + (S 20 i j 3)))), (0, .ref (b0 + zp_o 20 i j)), (1, .int x)]) rfl (fun ls hl => ?_)
  refine lv_iload_n F.1 F.2.1 dd_Packet_printWith_34 rfl (lv_at hl 0 rfl) ?_
  refine lv_aload_n F.1 F.2.1 dd_Packet_printWith_35 rfl (lv_at hl 1 rfl) ?_
  refine zc_gF (t := 20) (i := i) (j := j) F hE hP ⟨by decide, (show i < 2 by omega), (show j < 36 by omega)⟩ rfl rfl zi_Packet 4 (by decide) rfl wf_Packet_31 rfl dd_Packet_printWith_36 ?_
  refine zw_goi (zw_rSN F hE hP (zc_TL_mix lc G b0 S (zs_mix (zs_mix (zs_mix (nI 3) (S 20 i j 0)) ((S 20 i j 1) + x)) (((nI 4) * (S 20 i j 2)) + (S 20 i j 3))) (S 20 i j 4)) zk_TL_mix za_TL_mix wl_Packet_18 ⟨rfl, rfl, Nat.le_of_ble_eq_true rfl, Nat.le_of_ble_eq_true rfl⟩ hl.1 rfl (Nat.le_of_ble_eq_true rfl) ⟨Nat.zero_le _, Nat.zero_le _⟩ dd_Packet_printWith_39) hS (fun _ h => h) (fun H locs hP _ _ hS => ?_)
  refine lv_aload_n F.1 F.2.1 dd_Packet_printWith_42 rfl (lv_at hl 1 rfl) ?_
  refine zc_gF (t := 20) (i := i) (j := j) F hE hP ⟨by decide, (show i < 2 by omega), (show j < 36 by omega)⟩ rfl rfl zi_Packet 5 (by decide) rfl wf_Packet_9 rfl dd_Packet_printWith_43 ?_
  refine zw_goi (zw_rSN F hE hP (zc_TL_mix lc G b0 S (zs_mix (zs_mix (zs_mix (zs_mix (nI 3) (S 20 i j 0)) ((S 20 i j 1) + x)) (((nI 4) * (S 20 i j 2)) + (S 20 i j 3))) (S 20 i j 4)) (S 20 i j 5)) zk_TL_mix za_TL_mix wl_Packet_18 ⟨rfl, rfl, Nat.le_of_ble_eq_true rfl, Nat.le_of_ble_eq_true rfl⟩ hl.1 rfl (Nat.le_of_ble_eq_true rfl) ⟨Nat.zero_le _, Nat.zero_le _⟩ dd_Packet_printWith_46) hS (fun _ h => h) (fun H locs hP _ _ hS => ?_)
  exact zw_iret F hr hlk hP hS rfl rfl dd_Packet_printWith_49
set_option maxHeartbeats 4000000 in
set_option maxRecDepth 100000 in
theorem zc_Bank_isKind (lc : Launch) (G : zw_G) (b0 : Nat) (S : zs_S) (i : Nat) (k : Int32) (hi : i < 2) : zw_M lc ym_Bank_isKind bm_Bank_isKind 2 (some .boolean) { frames := 0, cells := 0, slots := 0, locals := 0 } G b0 176 (zp_p G b0 S) [.ref (b0 + zp_o 10 i 0), .int k] (zw_Qi G b0 176 (zp_p G b0 S) (zn_b (¬ k < 0 ∧ ¬ S 10 i 0 0 < k))) := by
  refine zw_of (by decide) (Nat.le_of_ble_eq_true rfl) ?_
  intro p e s m below meth cx ls F hr hlk hE hP hS hl
  have hl : lv_has ls 2 [(0, .ref (b0 + zp_o 10 i 0)), (1, .int k)] := hl
  refine lv_iload_n F.1 F.2.1 dd_Bank_isKind_0 rfl (lv_at hl 1 rfl) ?_
  refine lv_if_lt F.1 F.2.1 dd_Bank_isKind_1 (tgt := 16) rfl (fun h1 => ?_) (fun h1 => ?_)
  · refine lv_iconst (v := nI 0) F.1 F.2.1 dd_Bank_isKind_16 (by decide) ?_
    exact zw_zret F hr hlk hP hS rfl (by decide) ((zn_b0 (fun z => z.1 h1)).symm) dd_Bank_isKind_17
  · refine lv_iload_n F.1 F.2.1 dd_Bank_isKind_4 rfl (lv_at hl 1 rfl) ?_
    refine lv_aload_n F.1 F.2.1 dd_Bank_isKind_5 rfl (lv_at hl 0 rfl) ?_
    refine zc_gF (t := 10) (i := i) (j := 0) F hE hP ⟨by decide, (show i < 2 by omega), (show 0 < 1 by omega)⟩ rfl rfl zi_Bank 4 (by decide) rfl wf_Bank_26 rfl dd_Bank_isKind_6 ?_
    refine lv_icmp_gt F.1 F.2.1 dd_Bank_isKind_9 (tgt := 16) rfl (fun h9 => ?_) (fun h9 => ?_)
    · refine lv_iconst (v := nI 0) F.1 F.2.1 dd_Bank_isKind_16 (by decide) ?_
      exact zw_zret F hr hlk hP hS rfl (by decide) ((zn_b0 (fun z => z.2 h9)).symm) dd_Bank_isKind_17
    · refine lv_iconst (v := nI 1) F.1 F.2.1 dd_Bank_isKind_12 (by decide) ?_
      refine lv_goto F.1 F.2.1 dd_Bank_isKind_13 (tgt := 17) rfl ?_
      exact zw_zret F hr hlk hP hS rfl (by decide) ((zn_b1 ⟨h1, h9⟩).symm) dd_Bank_isKind_17
set_option maxHeartbeats 4000000 in
set_option maxRecDepth 100000 in
theorem zc_Bank_backBy (lc : Launch) (G : zw_G) (b0 : Nat) (S : zs_S) (i : Nat) (k : Nat) (c : Nat) (hi : i < 2) (hk : k < 6) : zw_M lc ym_Bank_backBy bm_Bank_backBy 3 (some .int) { frames := 0, cells := 0, slots := 0, locals := 0 } G b0 176 (zp_p G b0 S) [.ref (b0 + zp_o 10 i 0), .int (nI k), .int (nI c)] (zw_Qi G b0 176 (zp_p G b0 S) (zs_bb (S 16 i 0) (S 15 i 0) k c)) := by
  refine zw_of (by decide) (Nat.le_of_ble_eq_true rfl) ?_
  intro p e s m below meth cx ls F hr hlk hE hP hS hl
  have hl : lv_has ls 3 [(0, .ref (b0 + zp_o 10 i 0)), (1, .int (nI k)), (2, .int (nI c))] := hl
  refine lv_iload_n F.1 F.2.1 dd_Bank_backBy_0 rfl (lv_at hl 1 rfl) ?_
  refine lv_if_eq F.1 F.2.1 dd_Bank_backBy_1 (tgt := 25) rfl (fun h1 => ?_) (fun h1 => ?_)
  · refine lv_iconst (v := nI 0) F.1 F.2.1 dd_Bank_backBy_25 (by decide) ?_
    exact zw_iret F hr hlk hP hS rfl (by rw [zs_bb, if_pos h1]) dd_Bank_backBy_26
  · refine lv_aload_n F.1 F.2.1 dd_Bank_backBy_4 rfl (lv_at hl 0 rfl) ?_
    refine zc_gF (t := 10) (i := i) (j := 0) F hE hP ⟨by decide, (show i < 2 by omega), (show 0 < 1 by omega)⟩ rfl rfl zi_Bank 3 (by decide) rfl wf_Bank_23 rfl dd_Bank_backBy_5 ?_
    refine lv_iload_n F.1 F.2.1 dd_Bank_backBy_8 rfl (lv_at hl 1 rfl) ?_
    refine zc_iald (t := 16) (i := i) (j := 0) (k := k) (N := 6) F hE hP ⟨by decide, (show i < 2 by omega), (show 0 < 1 by omega)⟩ (fun _ => rfl) (by omega) (by decide) dd_Bank_backBy_9 ?_
    refine lv_iload_n F.1 F.2.1 dd_Bank_backBy_10 rfl (lv_at hl 2 rfl) ?_
    refine lv_icmp_ne F.1 F.2.1 dd_Bank_backBy_11 (tgt := 25) rfl (fun h11 => ?_) (fun h11 => ?_)
    · refine lv_iconst (v := nI 0) F.1 F.2.1 dd_Bank_backBy_25 (by decide) ?_
      exact zw_iret F hr hlk hP hS rfl (by rw [zs_bb, if_neg h1, if_neg h11]) dd_Bank_backBy_26
    · refine lv_iconst (v := nI 1) F.1 F.2.1 dd_Bank_backBy_14 (by decide) ?_
      refine lv_aload_n F.1 F.2.1 dd_Bank_backBy_15 rfl (lv_at hl 0 rfl) ?_
      refine zc_gF (t := 10) (i := i) (j := 0) F hE hP ⟨by decide, (show i < 2 by omega), (show 0 < 1 by omega)⟩ rfl rfl zi_Bank 2 (by decide) rfl wf_Bank_19 rfl dd_Bank_backBy_16 ?_
      refine lv_iload_n F.1 F.2.1 dd_Bank_backBy_19 rfl (lv_at hl 1 rfl) ?_
      refine zc_iald (t := 15) (i := i) (j := 0) (k := k) (N := 6) F hE hP ⟨by decide, (show i < 2 by omega), (show 0 < 1 by omega)⟩ (fun _ => rfl) (by omega) (by decide) dd_Bank_backBy_20 ?_
      refine lv_iadd F.1 F.2.1 dd_Bank_backBy_21 ?_
      refine lv_goto F.1 F.2.1 dd_Bank_backBy_22 (tgt := 26) rfl ?_
      exact zw_iret F hr hlk hP hS rfl (by rw [zs_bb, if_neg h1, if_pos h11]) dd_Bank_backBy_26
set_option maxHeartbeats 4000000 in
set_option maxRecDepth 100000 in
theorem zc_Bank_charge (lc : Launch) (G : zw_G) (b0 : Nat) (S : zs_S) (i : Nat) (j : Nat) (c : Nat) (u : Nat) (k : Nat) (hi : i < 2) (hj : j < 36) (hc : c < 3) (hu : u < 4) (hk : k < 6) (hf : S 20 i j 2 = nI u) (hkd : S 20 i j 0 = nI k) : zw_M lc ym_Bank_charge bm_Bank_charge 3 none { frames := 1, cells := 0, slots := 0, locals := 20 } G b0 176 (zp_p G b0 S) [.ref (b0 + zp_o 10 i 0), .ref (b0 + zp_o 20 i j), .int (nI c)] (zw_Qv G b0 176 (zp_p G b0 (zs_u (zs_u S 12 i u k (S 12 i u k - S 20 i j 1)) 14 i c k (if S 20 i j 5 ≤ 0 then S 14 i c k + S 20 i j 1 else S 14 i c k)))) := by
  refine zw_of (by decide) (Nat.le_of_ble_eq_true rfl) ?_
  intro p e s m below meth cx ls F hr hlk hE hP hS hl
  have hl : lv_has ls 3 [(0, .ref (b0 + zp_o 10 i 0)), (1, .ref (b0 + zp_o 20 i j)), (2, .int (nI c))] := hl
  refine lv_aload_n F.1 F.2.1 dd_Bank_charge_0 rfl (lv_at hl 0 rfl) ?_
  refine zc_gF (t := 10) (i := i) (j := 0) F hE hP ⟨by decide, (show i < 2 by omega), (show 0 < 1 by omega)⟩ rfl rfl zi_Bank 0 (by decide) rfl wf_Bank_11 rfl dd_Bank_charge_1 ?_
  refine lv_aload_n F.1 F.2.1 dd_Bank_charge_4 rfl (lv_at hl 1 rfl) ?_
  refine zc_gN (t := 20) (i := i) (j := j) F hE hP ⟨by decide, (show i < 2 by omega), (show j < 36 by omega)⟩ rfl rfl zi_Packet 2 (by decide) rfl wf_Bank_30 rfl dd_Bank_charge_5 ?_
  refine zn_top (y := nI u) (hf) ?_
  refine zc_aald (t := 11) (i := i) (j := 0) (k := u) (N := 4) (z := 6) (a := (b0 + zp_o 12 i u)) F hE hP ⟨by decide, (show i < 2 by omega), (show 0 < 1 by omega)⟩ rfl rfl rfl (by omega) (by decide) rfl dd_Bank_charge_8 ?_
  refine lv_aload_n F.1 F.2.1 dd_Bank_charge_9 rfl (lv_at hl 1 rfl) ?_
  refine zc_gN (t := 20) (i := i) (j := j) F hE hP ⟨by decide, (show i < 2 by omega), (show j < 36 by omega)⟩ rfl rfl zi_Packet 0 (by decide) rfl wf_Bank_35 rfl dd_Bank_charge_10 ?_
  refine zn_top (y := nI k) (hkd) ?_
  refine lv_dup2_11 F.1 F.2.1 dd_Bank_charge_13 rfl rfl ?_
  refine zc_iald (t := 12) (i := i) (j := u) (k := k) (N := 6) F hE hP ⟨by decide, (show i < 2 by omega), (show u < 4 by omega)⟩ (fun _ => rfl) (by omega) (by decide) dd_Bank_charge_14 ?_
  refine lv_aload_n F.1 F.2.1 dd_Bank_charge_15 rfl (lv_at hl 1 rfl) ?_
  refine zc_gN (t := 20) (i := i) (j := j) F hE hP ⟨by decide, (show i < 2 by omega), (show j < 36 by omega)⟩ rfl rfl zi_Packet 1 (by decide) rfl wf_Bank_38 rfl dd_Bank_charge_16 ?_
  refine lv_isub F.1 F.2.1 dd_Bank_charge_19 ?_
  refine zc_iast (t := 12) (i := i) (j := u) (k := k) (N := 6) F hE hP hS (fun _ h => h) ⟨by decide, (show i < 2 by omega), (show u < 4 by omega)⟩ (fun _ => rfl) (by omega) (by decide)  dd_Bank_charge_20 (fun H locs hP hS => ?_)
  refine lv_aload_n F.1 F.2.1 dd_Bank_charge_21 rfl (lv_at hl 1 rfl) ?_
  refine zw_goi (zw_rV F hE hP (zc_Packet_goesBack lc G b0 (zs_u S 12 i u k ((S 12 i u k) - (S 20 i j 1))) i j (by first | omega | assumption) (by first | omega | assumption)) zk_Packet_goesBack za_Packet_goesBack zb_Packet_goesBack wl_Bank_41 ⟨rfl, rfl, Nat.le_of_ble_eq_true rfl, Nat.le_of_ble_eq_true rfl⟩ (zc_recv (t := 20) (i := i) (j := j) hE hP ⟨by decide, (show i < 2 by omega), (show j < 36 by omega)⟩ rfl rfl) hl.1 rfl (Nat.le_of_ble_eq_true rfl) ⟨Nat.zero_le _, Nat.zero_le _⟩ dd_Bank_charge_22) hS (fun _ h => h) (fun H locs hP _ _ hS => ?_)
  refine zn_top (y := zn_b (¬ S 20 i j 5 ≤ 0)) (by rw [zs_ut (by decide)]) ?_
  refine zn_bne F dd_Bank_charge_25 (tgt := 46) rfl (fun h25 => ?_) (fun h25 => ?_)
  · exact zw_vret F hr hlk hP hS (congrArg (zp_p G b0) (by rw [if_neg h25]; exact (zs_idv (by rw [zs_ut (by decide)])).symm)) dd_Bank_charge_46
  · refine lv_aload_n F.1 F.2.1 dd_Bank_charge_28 rfl (lv_at hl 0 rfl) ?_
    refine zc_gF (t := 10) (i := i) (j := 0) F hE hP ⟨by decide, (show i < 2 by omega), (show 0 < 1 by omega)⟩ rfl rfl zi_Bank 1 (by decide) rfl wf_Bank_16 rfl dd_Bank_charge_29 ?_
    refine lv_iload_n F.1 F.2.1 dd_Bank_charge_32 rfl (lv_at hl 2 rfl) ?_
    refine zc_aald (t := 13) (i := i) (j := 0) (k := c) (N := 3) (z := 6) (a := (b0 + zp_o 14 i c)) F hE hP ⟨by decide, (show i < 2 by omega), (show 0 < 1 by omega)⟩ rfl rfl rfl (by omega) (by decide) rfl dd_Bank_charge_33 ?_
    refine lv_aload_n F.1 F.2.1 dd_Bank_charge_34 rfl (lv_at hl 1 rfl) ?_
    refine zc_gN (t := 20) (i := i) (j := j) F hE hP ⟨by decide, (show i < 2 by omega), (show j < 36 by omega)⟩ rfl rfl zi_Packet 0 (by decide) rfl wf_Bank_35 rfl dd_Bank_charge_35 ?_
    refine zn_top (y := S 20 i j 0) (by rw [zs_ut (by decide)]) ?_
    refine zn_top (y := nI k) (hkd) ?_
    refine lv_dup2_11 F.1 F.2.1 dd_Bank_charge_38 rfl rfl ?_
    refine zc_iald (t := 14) (i := i) (j := c) (k := k) (N := 6) F hE hP ⟨by decide, (show i < 2 by omega), (show c < 3 by omega)⟩ (fun _ => rfl) (by omega) (by decide) dd_Bank_charge_39 ?_
    refine zn_top (y := S 14 i c k) (by rw [zs_ut (by decide)]) ?_
    refine lv_aload_n F.1 F.2.1 dd_Bank_charge_40 rfl (lv_at hl 1 rfl) ?_
    refine zc_gN (t := 20) (i := i) (j := j) F hE hP ⟨by decide, (show i < 2 by omega), (show j < 36 by omega)⟩ rfl rfl zi_Packet 1 (by decide) rfl wf_Bank_38 rfl dd_Bank_charge_41 ?_
    refine zn_top (y := S 20 i j 1) (by rw [zs_ut (by decide)]) ?_
    refine lv_iadd F.1 F.2.1 dd_Bank_charge_44 ?_
    refine zc_iast (t := 14) (i := i) (j := c) (k := k) (N := 6) F hE hP hS (fun _ h => h) ⟨by decide, (show i < 2 by omega), (show c < 3 by omega)⟩ (fun _ => rfl) (by omega) (by decide)  dd_Bank_charge_45 (fun H locs hP hS => ?_)
    exact zw_vret F hr hlk hP hS (congrArg (zp_p G b0) (by rw [if_pos (zn_nn h25)])) dd_Bank_charge_46
set_option maxHeartbeats 4000000 in
set_option maxRecDepth 100000 in
theorem zc_Bank_refund (lc : Launch) (G : zw_G) (b0 : Nat) (S : zs_S) (i : Nat) (j : Nat) (c : Nat) (u : Nat) (k : Nat) (hi : i < 2) (hj : j < 36) (hc : c < 3) (hu : u < 4) (hk : k < 6) (hf : S 20 i j 2 = nI u) (hkd : S 20 i j 0 = nI k) : zw_M lc ym_Bank_refund bm_Bank_refund 3 none { frames := 1, cells := 0, slots := 0, locals := 20 } G b0 176 (zp_p G b0 S) [.ref (b0 + zp_o 10 i 0), .ref (b0 + zp_o 20 i j), .int (nI c)] (zw_Qv G b0 176 (zp_p G b0 (zs_u (zs_u S 12 i u k (S 12 i u k + S 20 i j 1)) 14 i c k (if S 20 i j 5 ≤ 0 then S 14 i c k - S 20 i j 1 else S 14 i c k)))) := by
  refine zw_of (by decide) (Nat.le_of_ble_eq_true rfl) ?_
  intro p e s m below meth cx ls F hr hlk hE hP hS hl
  have hl : lv_has ls 3 [(0, .ref (b0 + zp_o 10 i 0)), (1, .ref (b0 + zp_o 20 i j)), (2, .int (nI c))] := hl
  refine lv_aload_n F.1 F.2.1 dd_Bank_refund_0 rfl (lv_at hl 0 rfl) ?_
  refine zc_gF (t := 10) (i := i) (j := 0) F hE hP ⟨by decide, (show i < 2 by omega), (show 0 < 1 by omega)⟩ rfl rfl zi_Bank 0 (by decide) rfl wf_Bank_11 rfl dd_Bank_refund_1 ?_
  refine lv_aload_n F.1 F.2.1 dd_Bank_refund_4 rfl (lv_at hl 1 rfl) ?_
  refine zc_gN (t := 20) (i := i) (j := j) F hE hP ⟨by decide, (show i < 2 by omega), (show j < 36 by omega)⟩ rfl rfl zi_Packet 2 (by decide) rfl wf_Bank_30 rfl dd_Bank_refund_5 ?_
  refine zn_top (y := nI u) (hf) ?_
  refine zc_aald (t := 11) (i := i) (j := 0) (k := u) (N := 4) (z := 6) (a := (b0 + zp_o 12 i u)) F hE hP ⟨by decide, (show i < 2 by omega), (show 0 < 1 by omega)⟩ rfl rfl rfl (by omega) (by decide) rfl dd_Bank_refund_8 ?_
  refine lv_aload_n F.1 F.2.1 dd_Bank_refund_9 rfl (lv_at hl 1 rfl) ?_
  refine zc_gN (t := 20) (i := i) (j := j) F hE hP ⟨by decide, (show i < 2 by omega), (show j < 36 by omega)⟩ rfl rfl zi_Packet 0 (by decide) rfl wf_Bank_35 rfl dd_Bank_refund_10 ?_
  refine zn_top (y := nI k) (hkd) ?_
  refine lv_dup2_11 F.1 F.2.1 dd_Bank_refund_13 rfl rfl ?_
  refine zc_iald (t := 12) (i := i) (j := u) (k := k) (N := 6) F hE hP ⟨by decide, (show i < 2 by omega), (show u < 4 by omega)⟩ (fun _ => rfl) (by omega) (by decide) dd_Bank_refund_14 ?_
  refine lv_aload_n F.1 F.2.1 dd_Bank_refund_15 rfl (lv_at hl 1 rfl) ?_
  refine zc_gN (t := 20) (i := i) (j := j) F hE hP ⟨by decide, (show i < 2 by omega), (show j < 36 by omega)⟩ rfl rfl zi_Packet 1 (by decide) rfl wf_Bank_38 rfl dd_Bank_refund_16 ?_
  refine lv_iadd F.1 F.2.1 dd_Bank_refund_19 ?_
  refine zc_iast (t := 12) (i := i) (j := u) (k := k) (N := 6) F hE hP hS (fun _ h => h) ⟨by decide, (show i < 2 by omega), (show u < 4 by omega)⟩ (fun _ => rfl) (by omega) (by decide)  dd_Bank_refund_20 (fun H locs hP hS => ?_)
  refine lv_aload_n F.1 F.2.1 dd_Bank_refund_21 rfl (lv_at hl 1 rfl) ?_
  refine zw_goi (zw_rV F hE hP (zc_Packet_goesBack lc G b0 (zs_u S 12 i u k ((S 12 i u k) + (S 20 i j 1))) i j (by first | omega | assumption) (by first | omega | assumption)) zk_Packet_goesBack za_Packet_goesBack zb_Packet_goesBack wl_Bank_41 ⟨rfl, rfl, Nat.le_of_ble_eq_true rfl, Nat.le_of_ble_eq_true rfl⟩ (zc_recv (t := 20) (i := i) (j := j) hE hP ⟨by decide, (show i < 2 by omega), (show j < 36 by omega)⟩ rfl rfl) hl.1 rfl (Nat.le_of_ble_eq_true rfl) ⟨Nat.zero_le _, Nat.zero_le _⟩ dd_Bank_refund_22) hS (fun _ h => h) (fun H locs hP _ _ hS => ?_)
  refine zn_top (y := zn_b (¬ S 20 i j 5 ≤ 0)) (by rw [zs_ut (by decide)]) ?_
  refine zn_bne F dd_Bank_refund_25 (tgt := 46) rfl (fun h25 => ?_) (fun h25 => ?_)
  · exact zw_vret F hr hlk hP hS (congrArg (zp_p G b0) (by rw [if_neg h25]; exact (zs_idv (by rw [zs_ut (by decide)])).symm)) dd_Bank_refund_46
  · refine lv_aload_n F.1 F.2.1 dd_Bank_refund_28 rfl (lv_at hl 0 rfl) ?_
    refine zc_gF (t := 10) (i := i) (j := 0) F hE hP ⟨by decide, (show i < 2 by omega), (show 0 < 1 by omega)⟩ rfl rfl zi_Bank 1 (by decide) rfl wf_Bank_16 rfl dd_Bank_refund_29 ?_
    refine lv_iload_n F.1 F.2.1 dd_Bank_refund_32 rfl (lv_at hl 2 rfl) ?_
    refine zc_aald (t := 13) (i := i) (j := 0) (k := c) (N := 3) (z := 6) (a := (b0 + zp_o 14 i c)) F hE hP ⟨by decide, (show i < 2 by omega), (show 0 < 1 by omega)⟩ rfl rfl rfl (by omega) (by decide) rfl dd_Bank_refund_33 ?_
    refine lv_aload_n F.1 F.2.1 dd_Bank_refund_34 rfl (lv_at hl 1 rfl) ?_
    refine zc_gN (t := 20) (i := i) (j := j) F hE hP ⟨by decide, (show i < 2 by omega), (show j < 36 by omega)⟩ rfl rfl zi_Packet 0 (by decide) rfl wf_Bank_35 rfl dd_Bank_refund_35 ?_
    refine zn_top (y := S 20 i j 0) (by rw [zs_ut (by decide)]) ?_
    refine zn_top (y := nI k) (hkd) ?_
    refine lv_dup2_11 F.1 F.2.1 dd_Bank_refund_38 rfl rfl ?_
    refine zc_iald (t := 14) (i := i) (j := c) (k := k) (N := 6) F hE hP ⟨by decide, (show i < 2 by omega), (show c < 3 by omega)⟩ (fun _ => rfl) (by omega) (by decide) dd_Bank_refund_39 ?_
    refine zn_top (y := S 14 i c k) (by rw [zs_ut (by decide)]) ?_
    refine lv_aload_n F.1 F.2.1 dd_Bank_refund_40 rfl (lv_at hl 1 rfl) ?_
    refine zc_gN (t := 20) (i := i) (j := j) F hE hP ⟨by decide, (show i < 2 by omega), (show j < 36 by omega)⟩ rfl rfl zi_Packet 1 (by decide) rfl wf_Bank_38 rfl dd_Bank_refund_41 ?_
    refine zn_top (y := S 20 i j 1) (by rw [zs_ut (by decide)]) ?_
    refine lv_isub F.1 F.2.1 dd_Bank_refund_44 ?_
    refine zc_iast (t := 14) (i := i) (j := c) (k := k) (N := 6) F hE hP hS (fun _ h => h) ⟨by decide, (show i < 2 by omega), (show c < 3 by omega)⟩ (fun _ => rfl) (by omega) (by decide)  dd_Bank_refund_45 (fun H locs hP hS => ?_)
    exact zw_vret F hr hlk hP hS (congrArg (zp_p G b0) (by rw [if_pos (zn_nn h25)])) dd_Bank_refund_46
def zr_Bank_takeBack (S : zs_S) (i : Nat) (o : Nat) (j : Nat) (c : Nat) (t : Nat) (b : Nat) : Int32 := if S 20 o j 1 ≤ S 14 i c b then (nI 1) else (nI 0)
def zu_Bank_takeBack (S : zs_S) (i : Nat) (o : Nat) (j : Nat) (c : Nat) (t : Nat) (b : Nat) : zs_S := if S 20 o j 1 ≤ S 14 i c b then (zs_u (zs_u S 14 i c b ((S 14 i c b) - (S 20 o j 1))) 12 i t b ((S 12 i t b) + (S 20 o j 1))) else (S)
set_option maxHeartbeats 4000000 in
set_option maxRecDepth 100000 in
theorem zc_Bank_takeBack (lc : Launch) (G : zw_G) (b0 : Nat) (S : zs_S) (i : Nat) (o : Nat) (j : Nat) (c : Nat) (t : Nat) (b : Nat) (hi : i < 2) (ho : o < 2) (hj : j < 36) (hc : c < 3) (ht : t < 4) (hb : b < 6) (hto : S 20 o j 3 = nI t) (hbk : S 20 o j 5 = nI (b + 1)) : zw_M lc ym_Bank_takeBack bm_Bank_takeBack 4 (some .boolean) { frames := 0, cells := 0, slots := 0, locals := 0 } G b0 176 (zp_p G b0 S) [.ref (b0 + zp_o 10 i 0), .ref (b0 + zp_o 20 o j), .int (nI c)] (zw_Qi G b0 176 (zp_p G b0 (zu_Bank_takeBack S i o j c t b)) (zr_Bank_takeBack S i o j c t b)) := by
  refine zw_of (by decide) (Nat.le_of_ble_eq_true rfl) ?_
  intro p e s m below meth cx ls F hr hlk hE hP hS hl
  have hl : lv_has ls 4 [(0, .ref (b0 + zp_o 10 i 0)), (1, .ref (b0 + zp_o 20 o j)), (2, .int (nI c))] := hl
  refine lv_aload_n F.1 F.2.1 dd_Bank_takeBack_0 rfl (lv_at hl 1 rfl) ?_
  refine zc_gN (t := 20) (i := o) (j := j) F hE hP ⟨by decide, (show o < 2 by omega), (show j < 36 by omega)⟩ rfl rfl zi_Packet 5 (by decide) rfl wf_Bank_55 rfl dd_Bank_takeBack_1 ?_
  refine zn_top (y := nI (b + 1)) (hbk) ?_
  refine lv_iconst (v := nI 1) F.1 F.2.1 dd_Bank_takeBack_4 (by decide) ?_
  refine zn_isub F dd_Bank_takeBack_5 (by omega) ?_
  refine zn_top (y := nI b) (congrArg nI (by omega)) ?_
  refine lv_istore_n F.1 F.2.1 dd_Bank_takeBack_6 rfl hl (by decide) (lv' := [(3, .int (nI b)), (0, .ref (b0 + zp_o 10 i 0)), (1, .ref (b0 + zp_o 20 o j)), (2, .int (nI c))]) rfl (fun ls hl => ?_)
  refine lv_aload_n F.1 F.2.1 dd_Bank_takeBack_7 rfl (lv_at hl 1 rfl) ?_
  refine zc_gF (t := 10) (i := i) (j := 0) F hE hP ⟨by decide, (show i < 2 by omega), (show 0 < 1 by omega)⟩ rfl rfl zi_Bank 1 (by decide) rfl wf_Bank_16 rfl dd_Bank_takeBack_8 ?_
  refine lv_iload_n F.1 F.2.1 dd_Bank_takeBack_11 rfl (lv_at hl 3 rfl) ?_
  refine zc_aald (t := 13) (i := i) (j := 0) (k := c) (N := 3) (z := 6) (a := (b0 + zp_o 14 i c)) F hE hP ⟨by decide, (show i < 2 by omega), (show 0 < 1 by omega)⟩ rfl rfl rfl (by omega) (by decide) rfl dd_Bank_takeBack_12 ?_
  refine lv_iload_n F.1 F.2.1 dd_Bank_takeBack_13 rfl (lv_at hl 0 rfl) ?_
  refine zc_iald (t := 14) (i := i) (j := c) (k := b) (N := 6) F hE hP ⟨by decide, (show i < 2 by omega), (show c < 3 by omega)⟩ (fun _ => rfl) (by omega) (by decide) dd_Bank_takeBack_14 ?_
  refine lv_aload_n F.1 F.2.1 dd_Bank_takeBack_15 rfl (lv_at hl 2 rfl) ?_
  refine zc_gN (t := 20) (i := o) (j := j) F hE hP ⟨by decide, (show o < 2 by omega), (show j < 36 by omega)⟩ rfl rfl zi_Packet 1 (by decide) rfl wf_Bank_38 rfl dd_Bank_takeBack_16 ?_
  refine lv_icmp_ge F.1 F.2.1 dd_Bank_takeBack_19 (tgt := 24) rfl (fun h19 => ?_) (fun h19 => ?_)
  · refine lv_aload_n F.1 F.2.1 dd_Bank_takeBack_24 rfl (lv_at hl 1 rfl) ?_
    refine zc_gF (t := 10) (i := i) (j := 0) F hE hP ⟨by decide, (show i < 2 by omega), (show 0 < 1 by omega)⟩ rfl rfl zi_Bank 1 (by decide) rfl wf_Bank_16 rfl dd_Bank_takeBack_25 ?_
    refine lv_iload_n F.1 F.2.1 dd_Bank_takeBack_28 rfl (lv_at hl 3 rfl) ?_
    refine zc_aald (t := 13) (i := i) (j := 0) (k := c) (N := 3) (z := 6) (a := (b0 + zp_o 14 i c)) F hE hP ⟨by decide, (show i < 2 by omega), (show 0 < 1 by omega)⟩ rfl rfl rfl (by omega) (by decide) rfl dd_Bank_takeBack_29 ?_
    refine lv_iload_n F.1 F.2.1 dd_Bank_takeBack_30 rfl (lv_at hl 0 rfl) ?_
    refine lv_dup2_11 F.1 F.2.1 dd_Bank_takeBack_31 rfl rfl ?_
    refine zc_iald (t := 14) (i := i) (j := c) (k := b) (N := 6) F hE hP ⟨by decide, (show i < 2 by omega), (show c < 3 by omega)⟩ (fun _ => rfl) (by omega) (by decide) dd_Bank_takeBack_32 ?_
    refine lv_aload_n F.1 F.2.1 dd_Bank_takeBack_33 rfl (lv_at hl 2 rfl) ?_
    refine zc_gN (t := 20) (i := o) (j := j) F hE hP ⟨by decide, (show o < 2 by omega), (show j < 36 by omega)⟩ rfl rfl zi_Packet 1 (by decide) rfl wf_Bank_38 rfl dd_Bank_takeBack_34 ?_
    refine lv_isub F.1 F.2.1 dd_Bank_takeBack_37 ?_
    refine zc_iast (t := 14) (i := i) (j := c) (k := b) (N := 6) F hE hP hS (fun _ h => h) ⟨by decide, (show i < 2 by omega), (show c < 3 by omega)⟩ (fun _ => rfl) (by omega) (by decide)  dd_Bank_takeBack_38 (fun H locs hP hS => ?_)
    refine lv_aload_n F.1 F.2.1 dd_Bank_takeBack_39 rfl (lv_at hl 1 rfl) ?_
    refine zc_gF (t := 10) (i := i) (j := 0) F hE hP ⟨by decide, (show i < 2 by omega), (show 0 < 1 by omega)⟩ rfl rfl zi_Bank 0 (by decide) rfl wf_Bank_11 rfl dd_Bank_takeBack_40 ?_
    refine lv_aload_n F.1 F.2.1 dd_Bank_takeBack_43 rfl (lv_at hl 2 rfl) ?_
    refine zc_gN (t := 20) (i := o) (j := j) F hE hP ⟨by decide, (show o < 2 by omega), (show j < 36 by omega)⟩ rfl rfl zi_Packet 3 (by decide) rfl wf_Bank_45 rfl dd_Bank_takeBack_44 ?_
    refine zn_top (y := S 20 o j 3) (by rw [zs_ut (by decide)]) ?_
    refine zn_top (y := nI t) (hto) ?_
    refine zc_aald (t := 11) (i := i) (j := 0) (k := t) (N := 4) (z := 6) (a := (b0 + zp_o 12 i t)) F hE hP ⟨by decide, (show i < 2 by omega), (show 0 < 1 by omega)⟩ rfl rfl rfl (by omega) (by decide) rfl dd_Bank_takeBack_47 ?_
    refine lv_iload_n F.1 F.2.1 dd_Bank_takeBack_48 rfl (lv_at hl 0 rfl) ?_
    refine lv_dup2_11 F.1 F.2.1 dd_Bank_takeBack_49 rfl rfl ?_
    refine zc_iald (t := 12) (i := i) (j := t) (k := b) (N := 6) F hE hP ⟨by decide, (show i < 2 by omega), (show t < 4 by omega)⟩ (fun _ => rfl) (by omega) (by decide) dd_Bank_takeBack_50 ?_
    refine zn_top (y := S 12 i t b) (by rw [zs_ut (by decide)]) ?_
    refine lv_aload_n F.1 F.2.1 dd_Bank_takeBack_51 rfl (lv_at hl 2 rfl) ?_
    refine zc_gN (t := 20) (i := o) (j := j) F hE hP ⟨by decide, (show o < 2 by omega), (show j < 36 by omega)⟩ rfl rfl zi_Packet 1 (by decide) rfl wf_Bank_38 rfl dd_Bank_takeBack_52 ?_
    refine zn_top (y := S 20 o j 1) (by rw [zs_ut (by decide)]) ?_
    refine lv_iadd F.1 F.2.1 dd_Bank_takeBack_55 ?_
    refine zc_iast (t := 12) (i := i) (j := t) (k := b) (N := 6) F hE hP hS (fun _ h => h) ⟨by decide, (show i < 2 by omega), (show t < 4 by omega)⟩ (fun _ => rfl) (by omega) (by decide)  dd_Bank_takeBack_56 (fun H locs hP hS => ?_)
    refine lv_iconst (v := nI 1) F.1 F.2.1 dd_Bank_takeBack_57 (by decide) ?_
    exact zw_zret F hr hlk hP hS (congrArg (zp_p G b0) (by rw [zu_Bank_takeBack, if_pos h19])) (by decide) (by rw [zr_Bank_takeBack, if_pos h19]) dd_Bank_takeBack_58
  · refine lv_iconst (v := nI 0) F.1 F.2.1 dd_Bank_takeBack_22 (by decide) ?_
    exact zw_zret F hr hlk hP hS (congrArg (zp_p G b0) (by rw [zu_Bank_takeBack, if_neg h19])) (by decide) (by rw [zr_Bank_takeBack, if_neg h19]) dd_Bank_takeBack_23
set_option maxHeartbeats 4000000 in
set_option maxRecDepth 100000 in
theorem zc_Ledger_keeps (lc : Launch) (G : zw_G) (b0 : Nat) (S : zs_S) (i : Nat) (h : Int32) (hi : i < 2) : zw_M lc ym_Ledger_keeps bm_Ledger_keeps 2 (some .boolean) { frames := 0, cells := 0, slots := 0, locals := 0 } G b0 176 (zp_p G b0 S) [.ref (b0 + zp_o 2 i 0), .int h] (zw_Qi G b0 176 (zp_p G b0 S) (zn_b (zs_kp S i h))) := by
  refine zw_of (by decide) (Nat.le_of_ble_eq_true rfl) ?_
  intro p e s m below meth cx ls F hr hlk hE hP hS hl
  have hl : lv_has ls 2 [(0, .ref (b0 + zp_o 2 i 0)), (1, .int h)] := hl
  refine lv_iload_n F.1 F.2.1 dd_Ledger_keeps_0 rfl (lv_at hl 1 rfl) ?_
  refine lv_iconst (v := nI 1) F.1 F.2.1 dd_Ledger_keeps_1 (by decide) ?_
  refine lv_icmp_lt F.1 F.2.1 dd_Ledger_keeps_2 (tgt := 28) rfl (fun h2 => ?_) (fun h2 => ?_)
  · refine lv_iconst (v := nI 0) F.1 F.2.1 dd_Ledger_keeps_28 (by decide) ?_
    exact zw_zret F hr hlk hP hS rfl (by decide) ((zn_b0 (fun z => z.1 h2)).symm) dd_Ledger_keeps_29
  · refine lv_iload_n F.1 F.2.1 dd_Ledger_keeps_5 rfl (lv_at hl 1 rfl) ?_
    refine lv_aload_n F.1 F.2.1 dd_Ledger_keeps_6 rfl (lv_at hl 0 rfl) ?_
    refine zc_gF (t := 2) (i := i) (j := 0) F hE hP ⟨by decide, (show i < 2 by omega), (show 0 < 1 by omega)⟩ rfl rfl zi_Ledger 6 (by decide) rfl wf_Ledger_47 rfl dd_Ledger_keeps_7 ?_
    refine lv_icmp_gt F.1 F.2.1 dd_Ledger_keeps_10 (tgt := 28) rfl (fun h10 => ?_) (fun h10 => ?_)
    · refine lv_iconst (v := nI 0) F.1 F.2.1 dd_Ledger_keeps_28 (by decide) ?_
      exact zw_zret F hr hlk hP hS rfl (by decide) ((zn_b0 (fun z => z.2.1 h10)).symm) dd_Ledger_keeps_29
    · refine lv_iload_n F.1 F.2.1 dd_Ledger_keeps_13 rfl (lv_at hl 1 rfl) ?_
      refine lv_aload_n F.1 F.2.1 dd_Ledger_keeps_14 rfl (lv_at hl 0 rfl) ?_
      refine zc_gF (t := 2) (i := i) (j := 0) F hE hP ⟨by decide, (show i < 2 by omega), (show 0 < 1 by omega)⟩ rfl rfl zi_Ledger 6 (by decide) rfl wf_Ledger_47 rfl dd_Ledger_keeps_15 ?_
      refine lv_bipush (v := nI 8) F.1 F.2.1 dd_Ledger_keeps_18 (by decide) ?_
      refine lv_isub F.1 F.2.1 dd_Ledger_keeps_20 ?_
      refine lv_icmp_le F.1 F.2.1 dd_Ledger_keeps_21 (tgt := 28) rfl (fun h21 => ?_) (fun h21 => ?_)
      · refine lv_iconst (v := nI 0) F.1 F.2.1 dd_Ledger_keeps_28 (by decide) ?_
        exact zw_zret F hr hlk hP hS rfl (by decide) ((zn_b0 (fun z => z.2.2 h21)).symm) dd_Ledger_keeps_29
      · refine lv_iconst (v := nI 1) F.1 F.2.1 dd_Ledger_keeps_24 (by decide) ?_
        refine lv_goto F.1 F.2.1 dd_Ledger_keeps_25 (tgt := 29) rfl ?_
        exact zw_zret F hr hlk hP hS rfl (by decide) ((zn_b1 ⟨h2, h10, h21⟩).symm) dd_Ledger_keeps_29
set_option maxHeartbeats 4000000 in
set_option maxRecDepth 100000 in
theorem zc_Ledger_stateOf (lc : Launch) (G : zw_G) (b0 : Nat) (S : zs_S) (i : Nat) (c : Nat) (hi : i < 2) (hc : c < 3) : zw_M lc ym_Ledger_stateOf bm_Ledger_stateOf 2 (some .int) { frames := 1, cells := 0, slots := 0, locals := 21 } G b0 176 (zp_p G b0 S) [.ref (b0 + zp_o 2 i 0), .int (nI c)] (zw_Qi G b0 176 (zp_p G b0 S) (zs_st (S 4 i 0 c))) := by
  refine zw_of (by decide) (Nat.le_of_ble_eq_true rfl) ?_
  intro p e s m below meth cx ls F hr hlk hE hP hS hl
  have hl : lv_has ls 2 [(0, .ref (b0 + zp_o 2 i 0)), (1, .int (nI c))] := hl
  refine lv_aload_n F.1 F.2.1 dd_Ledger_stateOf_0 rfl (lv_at hl 0 rfl) ?_
  refine zc_gF (t := 2) (i := i) (j := 0) F hE hP ⟨by decide, (show i < 2 by omega), (show 0 < 1 by omega)⟩ rfl rfl zi_Ledger 0 (by decide) rfl wf_Ledger_12 rfl dd_Ledger_stateOf_1 ?_
  refine lv_iload_n F.1 F.2.1 dd_Ledger_stateOf_4 rfl (lv_at hl 1 rfl) ?_
  refine zw_goi (zw_rS F hE hP (zc_Store_endSlot lc G b0 S c) zk_Store_endSlot za_Store_endSlot wl_Ledger_63 ⟨rfl, rfl, Nat.le_of_ble_eq_true rfl, Nat.le_of_ble_eq_true rfl⟩ hl.1 rfl (Nat.le_of_ble_eq_true rfl) ⟨Nat.zero_le _, Nat.zero_le _⟩ dd_Ledger_stateOf_5) hS (fun _ h => h) (fun H locs hP _ _ hS => ?_)
  refine zw_goi (zw_rV F hE hP (zc_Store_valueIn lc G b0 S i 0 c (by first | omega | assumption) (by first | omega | assumption) (by first | omega | assumption)) zk_Store_valueIn za_Store_valueIn zb_Store_valueIn wl_Ledger_67 ⟨rfl, rfl, Nat.le_of_ble_eq_true rfl, Nat.le_of_ble_eq_true rfl⟩ (zc_recv (t := 3) (i := i) (j := 0) hE hP ⟨by decide, (show i < 2 by omega), (show 0 < 9 by omega)⟩ rfl rfl) hl.1 rfl (Nat.le_of_ble_eq_true rfl) ⟨Nat.zero_le _, Nat.zero_le _⟩ dd_Ledger_stateOf_8) hS (fun _ h => h) (fun H locs hP _ _ hS => ?_)
  refine lv_iconst (v := nI 2) F.1 F.2.1 dd_Ledger_stateOf_11 (by decide) ?_
  refine lv_idiv F.1 F.2.1 dd_Ledger_stateOf_12 (by decide) ?_
  exact zw_iret F hr hlk hP hS rfl rfl dd_Ledger_stateOf_13
set_option maxHeartbeats 4000000 in
set_option maxRecDepth 100000 in
theorem zc_Ledger_orderOf (lc : Launch) (G : zw_G) (b0 : Nat) (S : zs_S) (i : Nat) (c : Nat) (hi : i < 2) (hc : c < 3) : zw_M lc ym_Ledger_orderOf bm_Ledger_orderOf 2 (some .int) { frames := 1, cells := 0, slots := 0, locals := 21 } G b0 176 (zp_p G b0 S) [.ref (b0 + zp_o 2 i 0), .int (nI c)] (zw_Qi G b0 176 (zp_p G b0 S) (zs_or (S 4 i 0 c))) := by
  refine zw_of (by decide) (Nat.le_of_ble_eq_true rfl) ?_
  intro p e s m below meth cx ls F hr hlk hE hP hS hl
  have hl : lv_has ls 2 [(0, .ref (b0 + zp_o 2 i 0)), (1, .int (nI c))] := hl
  refine lv_aload_n F.1 F.2.1 dd_Ledger_orderOf_0 rfl (lv_at hl 0 rfl) ?_
  refine zc_gF (t := 2) (i := i) (j := 0) F hE hP ⟨by decide, (show i < 2 by omega), (show 0 < 1 by omega)⟩ rfl rfl zi_Ledger 0 (by decide) rfl wf_Ledger_12 rfl dd_Ledger_orderOf_1 ?_
  refine lv_iload_n F.1 F.2.1 dd_Ledger_orderOf_4 rfl (lv_at hl 1 rfl) ?_
  refine zw_goi (zw_rS F hE hP (zc_Store_endSlot lc G b0 S c) zk_Store_endSlot za_Store_endSlot wl_Ledger_63 ⟨rfl, rfl, Nat.le_of_ble_eq_true rfl, Nat.le_of_ble_eq_true rfl⟩ hl.1 rfl (Nat.le_of_ble_eq_true rfl) ⟨Nat.zero_le _, Nat.zero_le _⟩ dd_Ledger_orderOf_5) hS (fun _ h => h) (fun H locs hP _ _ hS => ?_)
  refine zw_goi (zw_rV F hE hP (zc_Store_valueIn lc G b0 S i 0 c (by first | omega | assumption) (by first | omega | assumption) (by first | omega | assumption)) zk_Store_valueIn za_Store_valueIn zb_Store_valueIn wl_Ledger_67 ⟨rfl, rfl, Nat.le_of_ble_eq_true rfl, Nat.le_of_ble_eq_true rfl⟩ (zc_recv (t := 3) (i := i) (j := 0) hE hP ⟨by decide, (show i < 2 by omega), (show 0 < 9 by omega)⟩ rfl rfl) hl.1 rfl (Nat.le_of_ble_eq_true rfl) ⟨Nat.zero_le _, Nat.zero_le _⟩ dd_Ledger_orderOf_8) hS (fun _ h => h) (fun H locs hP _ _ hS => ?_)
  refine lv_iconst (v := nI 2) F.1 F.2.1 dd_Ledger_orderOf_11 (by decide) ?_
  refine lv_irem F.1 F.2.1 dd_Ledger_orderOf_12 (by decide) ?_
  exact zw_iret F hr hlk hP hS rfl rfl dd_Ledger_orderOf_13
set_option maxHeartbeats 4000000 in
set_option maxRecDepth 100000 in
theorem zc_Ledger_isOrdered (lc : Launch) (G : zw_G) (b0 : Nat) (S : zs_S) (i : Nat) (c : Nat) (hi : i < 2) (hc : c < 3) : zw_M lc ym_Ledger_isOrdered bm_Ledger_isOrdered 2 (some .boolean) { frames := 2, cells := 0, slots := 0, locals := 42 } G b0 176 (zp_p G b0 S) [.ref (b0 + zp_o 2 i 0), .int (nI c)] (zw_Qi G b0 176 (zp_p G b0 S) (zn_b (zs_or (S 4 i 0 c) = nI 1))) := by
  refine zw_of (by decide) (Nat.le_of_ble_eq_true rfl) ?_
  intro p e s m below meth cx ls F hr hlk hE hP hS hl
  have hl : lv_has ls 2 [(0, .ref (b0 + zp_o 2 i 0)), (1, .int (nI c))] := hl
  refine lv_aload_n F.1 F.2.1 dd_Ledger_isOrdered_0 rfl (lv_at hl 0 rfl) ?_
  refine lv_iload_n F.1 F.2.1 dd_Ledger_isOrdered_1 rfl (lv_at hl 1 rfl) ?_
  refine zw_goi (zw_rV F hE hP (zc_Ledger_orderOf lc G b0 S i c (by first | omega | assumption) (by first | omega | assumption)) zk_Ledger_orderOf za_Ledger_orderOf zb_Ledger_orderOf wl_Ledger_70 ⟨rfl, rfl, Nat.le_of_ble_eq_true rfl, Nat.le_of_ble_eq_true rfl⟩ (zc_recv (t := 2) (i := i) (j := 0) hE hP ⟨by decide, (show i < 2 by omega), (show 0 < 1 by omega)⟩ rfl rfl) hl.1 rfl (Nat.le_of_ble_eq_true rfl) ⟨Nat.zero_le _, Nat.zero_le _⟩ dd_Ledger_isOrdered_2) hS (fun _ h => h) (fun H locs hP _ _ hS => ?_)
  refine lv_iconst (v := nI 1) F.1 F.2.1 dd_Ledger_isOrdered_5 (by decide) ?_
  refine lv_icmp_ne F.1 F.2.1 dd_Ledger_isOrdered_6 (tgt := 13) rfl (fun h6 => ?_) (fun h6 => ?_)
  · refine lv_iconst (v := nI 0) F.1 F.2.1 dd_Ledger_isOrdered_13 (by decide) ?_
    exact zw_zret F hr hlk hP hS rfl (by decide) ((zn_b0 h6).symm) dd_Ledger_isOrdered_14
  · refine lv_iconst (v := nI 1) F.1 F.2.1 dd_Ledger_isOrdered_9 (by decide) ?_
    refine lv_goto F.1 F.2.1 dd_Ledger_isOrdered_10 (tgt := 14) rfl ?_
    exact zw_zret F hr hlk hP hS rfl (by decide) ((zn_b1 h6).symm) dd_Ledger_isOrdered_14
end
section
set_option maxHeartbeats 4000000 in
set_option maxRecDepth 100000 in
theorem zc_Ledger_nextToReceive (lc : Launch) (G : zw_G) (b0 : Nat) (S : zs_S) (i : Nat) (c : Nat) (hi : i < 2) (hc : c < 3) : zw_M lc ym_Ledger_nextToReceive bm_Ledger_nextToReceive 2 (some .int) { frames := 1, cells := 0, slots := 0, locals := 21 } G b0 176 (zp_p G b0 S) [.ref (b0 + zp_o 2 i 0), .int (nI c)] (zw_Qi G b0 176 (zp_p G b0 S) (zs_nx (S 4 i 0 (3 + c)))) := by
  refine zw_of (by decide) (Nat.le_of_ble_eq_true rfl) ?_
  intro p e s m below meth cx ls F hr hlk hE hP hS hl
  have hl : lv_has ls 2 [(0, .ref (b0 + zp_o 2 i 0)), (1, .int (nI c))] := hl
  refine lv_iconst (v := nI 1) F.1 F.2.1 dd_Ledger_nextToReceive_0 (by decide) ?_
  refine lv_aload_n F.1 F.2.1 dd_Ledger_nextToReceive_1 rfl (lv_at hl 0 rfl) ?_
  refine zc_gF (t := 2) (i := i) (j := 0) F hE hP ⟨by decide, (show i < 2 by omega), (show 0 < 1 by omega)⟩ rfl rfl zi_Ledger 0 (by decide) rfl wf_Ledger_12 rfl dd_Ledger_nextToReceive_2 ?_
  refine lv_iload_n F.1 F.2.1 dd_Ledger_nextToReceive_5 rfl (lv_at hl 1 rfl) ?_
  refine zw_goi (zw_rS F hE hP (zc_Store_nextSlot lc G b0 S c) zk_Store_nextSlot za_Store_nextSlot wl_Ledger_73 ⟨rfl, rfl, Nat.le_of_ble_eq_true rfl, Nat.le_of_ble_eq_true rfl⟩ hl.1 rfl (Nat.le_of_ble_eq_true rfl) ⟨Nat.zero_le _, Nat.zero_le _⟩ dd_Ledger_nextToReceive_6) hS (fun _ h => h) (fun H locs hP _ _ hS => ?_)
  refine zw_goi (zw_rV F hE hP (zc_Store_valueIn lc G b0 S i 0 (3 + c) (by first | omega | assumption) (by first | omega | assumption) (by first | omega | assumption)) zk_Store_valueIn za_Store_valueIn zb_Store_valueIn wl_Ledger_67 ⟨rfl, rfl, Nat.le_of_ble_eq_true rfl, Nat.le_of_ble_eq_true rfl⟩ (zc_recv (t := 3) (i := i) (j := 0) hE hP ⟨by decide, (show i < 2 by omega), (show 0 < 9 by omega)⟩ rfl rfl) hl.1 rfl (Nat.le_of_ble_eq_true rfl) ⟨Nat.zero_le _, Nat.zero_le _⟩ dd_Ledger_nextToReceive_9) hS (fun _ h => h) (fun H locs hP _ _ hS => ?_)
  refine va_mmax F.1 F.2.1 (F.2.2.1.trans hl.1.symm) F.2.2.2.1 (F.2.2.2.2 _ wl_Ledger_76) (F.2.2.2.2 _ wx_mathS) (F.2.2.2.2 _ wx_mathI) (F.2.2.2.2 _ wx_mathC) (Nat.le_of_ble_eq_true rfl) (Nat.le_of_ble_eq_true rfl) (Nat.zero_le _) (Nat.zero_le _) dd_Ledger_nextToReceive_12 ?_
  exact zw_iret F hr hlk hP hS rfl rfl dd_Ledger_nextToReceive_15
set_option maxHeartbeats 4000000 in
set_option maxRecDepth 100000 in
theorem zc_Ledger_reach (lc : Launch) (G : zw_G) (b0 : Nat) (S : zs_S) (i : Nat) (o : Nat) (h : Int32) (hi : i < 2) (ho : o < 2) : zw_M lc ym_Ledger_reach bm_Ledger_reach 3 (some .int) { frames := 1, cells := 0, slots := 0, locals := 21 } G b0 176 (zp_p G b0 S) [.ref (b0 + zp_o 2 i 0), .ref (b0 + zp_o 2 o 0), .int h] (zw_Qi G b0 176 (zp_p G b0 S) (zs_rc S i o h)) := by
  refine zw_of (by decide) (Nat.le_of_ble_eq_true rfl) ?_
  intro p e s m below meth cx ls F hr hlk hE hP hS hl
  have hl : lv_has ls 3 [(0, .ref (b0 + zp_o 2 i 0)), (1, .ref (b0 + zp_o 2 o 0)), (2, .int h)] := hl
  refine lv_aload_n F.1 F.2.1 dd_Ledger_reach_0 rfl (lv_at hl 0 rfl) ?_
  refine zc_gF (t := 2) (i := i) (j := 0) F hE hP ⟨by decide, (show i < 2 by omega), (show 0 < 1 by omega)⟩ rfl rfl zi_Ledger 3 (by decide) rfl wf_Ledger_29 rfl dd_Ledger_reach_1 ?_
  refine lv_iload_n F.1 F.2.1 dd_Ledger_reach_4 rfl (lv_at hl 2 rfl) ?_
  refine zw_goi (zw_rV F hE hP (zc_Client_hasHeader lc G b0 S i h (by first | omega | assumption)) zk_Client_hasHeader za_Client_hasHeader zb_Client_hasHeader wl_Ledger_82 ⟨rfl, rfl, Nat.le_of_ble_eq_true rfl, Nat.le_of_ble_eq_true rfl⟩ (zc_recv (t := 8) (i := i) (j := 0) hE hP ⟨by decide, (show i < 2 by omega), (show 0 < 1 by omega)⟩ rfl rfl) hl.1 rfl (Nat.le_of_ble_eq_true rfl) ⟨Nat.zero_le _, Nat.zero_le _⟩ dd_Ledger_reach_5) hS (fun _ h => h) (fun H locs hP _ _ hS => ?_)
  refine zn_bne F dd_Ledger_reach_8 (tgt := 14) rfl (fun h8 => ?_) (fun h8 => ?_)
  · refine lv_aload_n F.1 F.2.1 dd_Ledger_reach_14 rfl (lv_at hl 1 rfl) ?_
    refine lv_iload_n F.1 F.2.1 dd_Ledger_reach_15 rfl (lv_at hl 2 rfl) ?_
    refine zw_goi (zw_rV F hE hP (zc_Ledger_keeps lc G b0 S o h (by first | omega | assumption)) zk_Ledger_keeps za_Ledger_keeps zb_Ledger_keeps wl_Ledger_55 ⟨rfl, rfl, Nat.le_of_ble_eq_true rfl, Nat.le_of_ble_eq_true rfl⟩ (zc_recv (t := 2) (i := o) (j := 0) hE hP ⟨by decide, (show o < 2 by omega), (show 0 < 1 by omega)⟩ rfl rfl) hl.1 rfl (Nat.le_of_ble_eq_true rfl) ⟨Nat.zero_le _, Nat.zero_le _⟩ dd_Ledger_reach_16) hS (fun _ h => h) (fun H locs hP _ _ hS => ?_)
    refine zn_beq F dd_Ledger_reach_19 (tgt := 26) rfl (fun h19 => ?_) (fun h19 => ?_)
    · refine lv_bipush (v := (-4)) F.1 F.2.1 dd_Ledger_reach_26 (by decide) ?_
      exact zw_iret F hr hlk hP hS rfl (by rw [zs_rc, if_pos h8, if_neg h19]) dd_Ledger_reach_28
    · refine lv_iconst (v := nI 0) F.1 F.2.1 dd_Ledger_reach_22 (by decide) ?_
      refine lv_goto F.1 F.2.1 dd_Ledger_reach_23 (tgt := 28) rfl ?_
      exact zw_iret F hr hlk hP hS rfl (by rw [zs_rc, if_pos h8, if_pos h19]) dd_Ledger_reach_28
  · refine lv_bipush (v := (-3)) F.1 F.2.1 dd_Ledger_reach_11 (by decide) ?_
    exact zw_iret F hr hlk hP hS rfl (by rw [zs_rc, if_neg h8]) dd_Ledger_reach_13
set_option maxHeartbeats 4000000 in
set_option maxRecDepth 100000 in
theorem zc_Ledger_proveValue (lc : Launch) (G : zw_G) (b0 : Nat) (S : zs_S) (i : Nat) (o : Nat) (h : Int32) (k : Nat) (v : Int32) (hi : i < 2) (ho : o < 2) (hk : k < 114) (hB : zs_B S) : zw_M lc ym_Ledger_proveValue bm_Ledger_proveValue 7 (some .int) { frames := 2, cells := 0, slots := 0, locals := 43 } G b0 176 (zp_p G b0 S) [.ref (b0 + zp_o 2 i 0), .ref (b0 + zp_o 2 o 0), .int h, .int (nI k), .int v] (zw_Qi G b0 176 (zp_p G b0 S) (zs_pv S i o h k v)) := by
  refine zw_of (by decide) (Nat.le_of_ble_eq_true rfl) ?_
  intro p e s m below meth cx ls F hr hlk hE hP hS hl
  have hl : lv_has ls 7 [(0, .ref (b0 + zp_o 2 i 0)), (1, .ref (b0 + zp_o 2 o 0)), (2, .int h), (3, .int (nI k)), (4, .int v)] := hl
  refine lv_aload_n F.1 F.2.1 dd_Ledger_proveValue_0 rfl (lv_at hl 0 rfl) ?_
  refine lv_aload_n F.1 F.2.1 dd_Ledger_proveValue_1 rfl (lv_at hl 1 rfl) ?_
  refine lv_iload_n F.1 F.2.1 dd_Ledger_proveValue_2 rfl (lv_at hl 2 rfl) ?_
  refine zw_goi (zw_rV F hE hP (zc_Ledger_reach lc G b0 S i o h (by first | omega | assumption) (by first | omega | assumption)) zk_Ledger_reach za_Ledger_reach zb_Ledger_reach wl_Ledger_85 ⟨rfl, rfl, Nat.le_of_ble_eq_true rfl, Nat.le_of_ble_eq_true rfl⟩ (zc_recv (t := 2) (i := i) (j := 0) hE hP ⟨by decide, (show i < 2 by omega), (show 0 < 1 by omega)⟩ rfl rfl) hl.1 rfl (Nat.le_of_ble_eq_true rfl) ⟨Nat.zero_le _, Nat.zero_le _⟩ dd_Ledger_proveValue_3) hS (fun _ h => h) (fun H locs hP _ _ hS => ?_)
  refine lv_istore F.1 F.2.1 dd_Ledger_proveValue_6 hl (by decide) (lv' := [(5, .int (zs_rc S i o h)), (0, .ref (b0 + zp_o 2 i 0)), (1, .ref (b0 + zp_o 2 o 0)), (2, .int h), (3, .int (nI k)), (4, .int v)]) rfl (fun ls hl => ?_)
  refine lv_iload F.1 F.2.1 dd_Ledger_proveValue_8 (lv_at hl 0 rfl) ?_
  refine lv_if_eq F.1 F.2.1 dd_Ledger_proveValue_10 (tgt := 16) rfl (fun h10 => ?_) (fun h10 => ?_)
  · obtain ⟨q, hq, rfl⟩ := zs_rcq h10
    refine lv_aload_n F.1 F.2.1 dd_Ledger_proveValue_16 rfl (lv_at hl 2 rfl) ?_
    refine zc_gF (t := 2) (i := o) (j := 0) F hE hP ⟨by decide, (show o < 2 by omega), (show 0 < 1 by omega)⟩ rfl rfl zi_Ledger 1 (by decide) rfl wf_Ledger_18 rfl dd_Ledger_proveValue_17 ?_
    refine lv_iload_n F.1 F.2.1 dd_Ledger_proveValue_20 rfl (lv_at hl 3 rfl) ?_
    refine lv_bipush (v := nI 8) F.1 F.2.1 dd_Ledger_proveValue_21 (by decide) ?_
    refine zn_irem F dd_Ledger_proveValue_23 (by omega) (by decide) (by decide) ?_
    refine zc_aald (t := 6) (i := o) (j := 0) (k := q % 8) (N := 8) (z := 3) (a := (b0 + zp_o 3 o ((q % 8) + 1))) F hE hP ⟨by decide, (show o < 2 by omega), (show 0 < 1 by omega)⟩ rfl rfl rfl (by omega) (by decide) rfl dd_Ledger_proveValue_24 ?_
    refine lv_astore F.1 F.2.1 dd_Ledger_proveValue_25 hl (by decide) (lv' := [(6, .ref (b0 + zp_o 3 o ((q % 8) + 1))), (5, .int (zs_rc S i o (nI q))), (0, .ref (b0 + zp_o 2 i 0)), (1, .ref (b0 + zp_o 2 o 0)), (2, .int (nI q)), (3, .int (nI k)), (4, .int v)]) rfl (fun ls hl => ?_)
    refine lv_aload F.1 F.2.1 dd_Ledger_proveValue_27 (lv_at hl 0 rfl) ?_
    refine lv_iload_n F.1 F.2.1 dd_Ledger_proveValue_29 rfl (lv_at hl 5 rfl) ?_
    refine zw_goi (zw_rV F hE hP (zc_Store_has lc G b0 S o ((q % 8) + 1) k (by first | omega | assumption) (by first | omega | assumption) (by first | omega | assumption) (hB _ _ _)) zk_Store_has za_Store_has zb_Store_has wl_Ledger_89 ⟨rfl, rfl, Nat.le_of_ble_eq_true rfl, Nat.le_of_ble_eq_true rfl⟩ (zc_recv (t := 3) (i := o) (j := (q % 8) + 1) hE hP ⟨by decide, (show o < 2 by omega), (show (q % 8) + 1 < 9 by omega)⟩ rfl rfl) hl.1 rfl (Nat.le_of_ble_eq_true rfl) ⟨Nat.zero_le _, Nat.zero_le _⟩ dd_Ledger_proveValue_30) hS (fun _ h => h) (fun H locs hP _ _ hS => ?_)
    refine lv_if_eq F.1 F.2.1 dd_Ledger_proveValue_33 (tgt := 51) rfl (fun h33 => ?_) (fun h33 => ?_)
    · refine lv_bipush (v := (-5)) F.1 F.2.1 dd_Ledger_proveValue_51 (by decide) ?_
      exact zw_iret F hr hlk hP hS rfl (by rw [zs_pv, if_pos h10, nI_clamp hq, if_pos h33]) dd_Ledger_proveValue_53
    · refine lv_aload F.1 F.2.1 dd_Ledger_proveValue_36 (lv_at hl 0 rfl) ?_
      refine lv_iload_n F.1 F.2.1 dd_Ledger_proveValue_38 rfl (lv_at hl 5 rfl) ?_
      refine zw_goi (zw_rV F hE hP (zc_Store_valueIn lc G b0 S o ((q % 8) + 1) k (by first | omega | assumption) (by first | omega | assumption) (by first | omega | assumption)) zk_Store_valueIn za_Store_valueIn zb_Store_valueIn wl_Ledger_67 ⟨rfl, rfl, Nat.le_of_ble_eq_true rfl, Nat.le_of_ble_eq_true rfl⟩ (zc_recv (t := 3) (i := o) (j := (q % 8) + 1) hE hP ⟨by decide, (show o < 2 by omega), (show (q % 8) + 1 < 9 by omega)⟩ rfl rfl) hl.1 rfl (Nat.le_of_ble_eq_true rfl) ⟨Nat.zero_le _, Nat.zero_le _⟩ dd_Ledger_proveValue_39) hS (fun _ h => h) (fun H locs hP _ _ hS => ?_)
      refine lv_iload F.1 F.2.1 dd_Ledger_proveValue_42 (lv_at hl 6 rfl) ?_
      refine lv_icmp_ne F.1 F.2.1 dd_Ledger_proveValue_44 (tgt := 51) rfl (fun h44 => ?_) (fun h44 => ?_)
      · refine lv_bipush (v := (-5)) F.1 F.2.1 dd_Ledger_proveValue_51 (by decide) ?_
        exact zw_iret F hr hlk hP hS rfl (by rw [zs_pv, if_pos h10, nI_clamp hq, if_neg h33, if_neg h44]) dd_Ledger_proveValue_53
      · refine lv_iconst (v := nI 0) F.1 F.2.1 dd_Ledger_proveValue_47 (by decide) ?_
        refine lv_goto F.1 F.2.1 dd_Ledger_proveValue_48 (tgt := 53) rfl ?_
        exact zw_iret F hr hlk hP hS rfl (by rw [zs_pv, if_pos h10, nI_clamp hq, if_neg h33, if_pos h44]) dd_Ledger_proveValue_53
  · refine lv_iload F.1 F.2.1 dd_Ledger_proveValue_13 (lv_at hl 0 rfl) ?_
    exact zw_iret F hr hlk hP hS rfl (by rw [zs_pv, if_neg h10]) dd_Ledger_proveValue_15
set_option maxHeartbeats 4000000 in
set_option maxRecDepth 100000 in
theorem zc_Ledger_proveAbsence (lc : Launch) (G : zw_G) (b0 : Nat) (S : zs_S) (i : Nat) (o : Nat) (h : Int32) (k : Nat) (hi : i < 2) (ho : o < 2) (hk : k < 114) (hB : zs_B S) : zw_M lc ym_Ledger_proveAbsence bm_Ledger_proveAbsence 5 (some .int) { frames := 2, cells := 0, slots := 0, locals := 43 } G b0 176 (zp_p G b0 S) [.ref (b0 + zp_o 2 i 0), .ref (b0 + zp_o 2 o 0), .int h, .int (nI k)] (zw_Qi G b0 176 (zp_p G b0 S) (zs_pa S i o h k)) := by
  refine zw_of (by decide) (Nat.le_of_ble_eq_true rfl) ?_
  intro p e s m below meth cx ls F hr hlk hE hP hS hl
  have hl : lv_has ls 5 [(0, .ref (b0 + zp_o 2 i 0)), (1, .ref (b0 + zp_o 2 o 0)), (2, .int h), (3, .int (nI k))] := hl
  refine lv_aload_n F.1 F.2.1 dd_Ledger_proveAbsence_0 rfl (lv_at hl 0 rfl) ?_
  refine lv_aload_n F.1 F.2.1 dd_Ledger_proveAbsence_1 rfl (lv_at hl 1 rfl) ?_
  refine lv_iload_n F.1 F.2.1 dd_Ledger_proveAbsence_2 rfl (lv_at hl 2 rfl) ?_
  refine zw_goi (zw_rV F hE hP (zc_Ledger_reach lc G b0 S i o h (by first | omega | assumption) (by first | omega | assumption)) zk_Ledger_reach za_Ledger_reach zb_Ledger_reach wl_Ledger_85 ⟨rfl, rfl, Nat.le_of_ble_eq_true rfl, Nat.le_of_ble_eq_true rfl⟩ (zc_recv (t := 2) (i := i) (j := 0) hE hP ⟨by decide, (show i < 2 by omega), (show 0 < 1 by omega)⟩ rfl rfl) hl.1 rfl (Nat.le_of_ble_eq_true rfl) ⟨Nat.zero_le _, Nat.zero_le _⟩ dd_Ledger_proveAbsence_3) hS (fun _ h => h) (fun H locs hP _ _ hS => ?_)
  refine lv_istore F.1 F.2.1 dd_Ledger_proveAbsence_6 hl (by decide) (lv' := [(4, .int (zs_rc S i o h)), (0, .ref (b0 + zp_o 2 i 0)), (1, .ref (b0 + zp_o 2 o 0)), (2, .int h), (3, .int (nI k))]) rfl (fun ls hl => ?_)
  refine lv_iload F.1 F.2.1 dd_Ledger_proveAbsence_8 (lv_at hl 0 rfl) ?_
  refine lv_if_eq F.1 F.2.1 dd_Ledger_proveAbsence_10 (tgt := 16) rfl (fun h10 => ?_) (fun h10 => ?_)
  · obtain ⟨q, hq, rfl⟩ := zs_rcq h10
    refine lv_aload_n F.1 F.2.1 dd_Ledger_proveAbsence_16 rfl (lv_at hl 2 rfl) ?_
    refine zc_gF (t := 2) (i := o) (j := 0) F hE hP ⟨by decide, (show o < 2 by omega), (show 0 < 1 by omega)⟩ rfl rfl zi_Ledger 1 (by decide) rfl wf_Ledger_18 rfl dd_Ledger_proveAbsence_17 ?_
    refine lv_iload_n F.1 F.2.1 dd_Ledger_proveAbsence_20 rfl (lv_at hl 3 rfl) ?_
    refine lv_bipush (v := nI 8) F.1 F.2.1 dd_Ledger_proveAbsence_21 (by decide) ?_
    refine zn_irem F dd_Ledger_proveAbsence_23 (by omega) (by decide) (by decide) ?_
    refine zc_aald (t := 6) (i := o) (j := 0) (k := q % 8) (N := 8) (z := 3) (a := (b0 + zp_o 3 o ((q % 8) + 1))) F hE hP ⟨by decide, (show o < 2 by omega), (show 0 < 1 by omega)⟩ rfl rfl rfl (by omega) (by decide) rfl dd_Ledger_proveAbsence_24 ?_
    refine lv_iload_n F.1 F.2.1 dd_Ledger_proveAbsence_25 rfl (lv_at hl 4 rfl) ?_
    refine zw_goi (zw_rV F hE hP (zc_Store_has lc G b0 S o ((q % 8) + 1) k (by first | omega | assumption) (by first | omega | assumption) (by first | omega | assumption) (hB _ _ _)) zk_Store_has za_Store_has zb_Store_has wl_Ledger_89 ⟨rfl, rfl, Nat.le_of_ble_eq_true rfl, Nat.le_of_ble_eq_true rfl⟩ (zc_recv (t := 3) (i := o) (j := (q % 8) + 1) hE hP ⟨by decide, (show o < 2 by omega), (show (q % 8) + 1 < 9 by omega)⟩ rfl rfl) hl.1 rfl (Nat.le_of_ble_eq_true rfl) ⟨Nat.zero_le _, Nat.zero_le _⟩ dd_Ledger_proveAbsence_26) hS (fun _ h => h) (fun H locs hP _ _ hS => ?_)
    refine lv_if_eq F.1 F.2.1 dd_Ledger_proveAbsence_29 (tgt := 37) rfl (fun h29 => ?_) (fun h29 => ?_)
    · refine lv_iconst (v := nI 0) F.1 F.2.1 dd_Ledger_proveAbsence_37 (by decide) ?_
      exact zw_iret F hr hlk hP hS rfl (by rw [zs_pa, if_pos h10, nI_clamp hq, if_pos h29]) dd_Ledger_proveAbsence_38
    · refine lv_bipush (v := (-5)) F.1 F.2.1 dd_Ledger_proveAbsence_32 (by decide) ?_
      refine lv_goto F.1 F.2.1 dd_Ledger_proveAbsence_34 (tgt := 38) rfl ?_
      exact zw_iret F hr hlk hP hS rfl (by rw [zs_pa, if_pos h10, nI_clamp hq, if_neg h29]) dd_Ledger_proveAbsence_38
  · refine lv_iload F.1 F.2.1 dd_Ledger_proveAbsence_13 (lv_at hl 0 rfl) ?_
    exact zw_iret F hr hlk hP hS rfl (by rw [zs_pa, if_neg h10]) dd_Ledger_proveAbsence_15
set_option maxHeartbeats 4000000 in
set_option maxRecDepth 100000 in
theorem zc_Ledger_proveEnd (lc : Launch) (G : zw_G) (b0 : Nat) (S : zs_S) (i : Nat) (o : Nat) (h : Int32) (c : Nat) (x : Int32) (y : Int32) (hi : i < 2) (ho : o < 2) (hc : c < 3) (hB : zs_B S) : zw_M lc ym_Ledger_proveEnd bm_Ledger_proveEnd 6 (some .int) { frames := 3, cells := 0, slots := 0, locals := 69 } G b0 176 (zp_p G b0 S) [.ref (b0 + zp_o 2 i 0), .ref (b0 + zp_o 2 o 0), .int h, .int (nI c), .int x, .int y] (zw_Qi G b0 176 (zp_p G b0 S) (zs_pv S i o h c (nI 2 * x + y))) := by
  refine zw_of (by decide) (Nat.le_of_ble_eq_true rfl) ?_
  intro p e s m below meth cx ls F hr hlk hE hP hS hl
  have hl : lv_has ls 6 [(0, .ref (b0 + zp_o 2 i 0)), (1, .ref (b0 + zp_o 2 o 0)), (2, .int h), (3, .int (nI c)), (4, .int x), (5, .int y)] := hl
  refine lv_aload_n F.1 F.2.1 dd_Ledger_proveEnd_0 rfl (lv_at hl 0 rfl) ?_
  refine lv_aload_n F.1 F.2.1 dd_Ledger_proveEnd_1 rfl (lv_at hl 1 rfl) ?_
  refine lv_iload_n F.1 F.2.1 dd_Ledger_proveEnd_2 rfl (lv_at hl 2 rfl) ?_
  refine lv_iload_n F.1 F.2.1 dd_Ledger_proveEnd_3 rfl (lv_at hl 3 rfl) ?_
  refine zw_goi (zw_rS F hE hP (zc_Store_endSlot lc G b0 S c) zk_Store_endSlot za_Store_endSlot wl_Ledger_63 ⟨rfl, rfl, Nat.le_of_ble_eq_true rfl, Nat.le_of_ble_eq_true rfl⟩ hl.1 rfl (Nat.le_of_ble_eq_true rfl) ⟨Nat.zero_le _, Nat.zero_le _⟩ dd_Ledger_proveEnd_4) hS (fun _ h => h) (fun H locs hP _ _ hS => ?_)
  refine lv_iconst (v := nI 2) F.1 F.2.1 dd_Ledger_proveEnd_7 (by decide) ?_
  refine lv_iload F.1 F.2.1 dd_Ledger_proveEnd_8 (lv_at hl 4 rfl) ?_
  refine lv_imul F.1 F.2.1 dd_Ledger_proveEnd_10 ?_
  refine lv_iload F.1 F.2.1 dd_Ledger_proveEnd_11 (lv_at hl 5 rfl) ?_
  refine lv_iadd F.1 F.2.1 dd_Ledger_proveEnd_13 ?_
  refine zw_goi (zw_rV F hE hP (zc_Ledger_proveValue lc G b0 S i o h c (((nI 2) * x) + y) (by first | omega | assumption) (by first | omega | assumption) (by first | omega | assumption) (by assumption)) zk_Ledger_proveValue za_Ledger_proveValue zb_Ledger_proveValue wl_Ledger_92 ⟨rfl, rfl, Nat.le_of_ble_eq_true rfl, Nat.le_of_ble_eq_true rfl⟩ (zc_recv (t := 2) (i := i) (j := 0) hE hP ⟨by decide, (show i < 2 by omega), (show 0 < 1 by omega)⟩ rfl rfl) hl.1 rfl (Nat.le_of_ble_eq_true rfl) ⟨Nat.zero_le _, Nat.zero_le _⟩ dd_Ledger_proveEnd_14) hS (fun _ h => h) (fun H locs hP _ _ hS => ?_)
  exact zw_iret F hr hlk hP hS rfl rfl dd_Ledger_proveEnd_17
set_option maxHeartbeats 4000000 in
set_option maxRecDepth 100000 in
theorem zc_Ledger_makeEnd (lc : Launch) (G : zw_G) (b0 : Nat) (S : zs_S) (i : Nat) (c : Nat) (x : Int32) (y : Int32) (hi : i < 2) (hc : c < 3) : zw_M lc ym_Ledger_makeEnd bm_Ledger_makeEnd 4 none { frames := 1, cells := 0, slots := 0, locals := 22 } G b0 176 (zp_p G b0 S) [.ref (b0 + zp_o 2 i 0), .int (nI c), .int x, .int y] (zw_Qv G b0 176 (zp_p G b0 (zs_u (zs_u (zs_u (zs_u S 4 i 0 c (nI 2 * x + y)) 5 i 0 c (nI 1)) 4 i 0 (3 + c) (if y = nI 1 then nI 1 else S 4 i 0 (3 + c))) 5 i 0 (3 + c) (if y = nI 1 then nI 1 else S 5 i 0 (3 + c))))) := by
  refine zw_of (by decide) (Nat.le_of_ble_eq_true rfl) ?_
  intro p e s m below meth cx ls F hr hlk hE hP hS hl
  have hl : lv_has ls 4 [(0, .ref (b0 + zp_o 2 i 0)), (1, .int (nI c)), (2, .int x), (3, .int y)] := hl
  refine lv_aload_n F.1 F.2.1 dd_Ledger_makeEnd_0 rfl (lv_at hl 0 rfl) ?_
  refine zc_gF (t := 2) (i := i) (j := 0) F hE hP ⟨by decide, (show i < 2 by omega), (show 0 < 1 by omega)⟩ rfl rfl zi_Ledger 0 (by decide) rfl wf_Ledger_12 rfl dd_Ledger_makeEnd_1 ?_
  refine lv_iload_n F.1 F.2.1 dd_Ledger_makeEnd_4 rfl (lv_at hl 1 rfl) ?_
  refine zw_goi (zw_rS F hE hP (zc_Store_endSlot lc G b0 S c) zk_Store_endSlot za_Store_endSlot wl_Ledger_63 ⟨rfl, rfl, Nat.le_of_ble_eq_true rfl, Nat.le_of_ble_eq_true rfl⟩ hl.1 rfl (Nat.le_of_ble_eq_true rfl) ⟨Nat.zero_le _, Nat.zero_le _⟩ dd_Ledger_makeEnd_5) hS (fun _ h => h) (fun H locs hP _ _ hS => ?_)
  refine lv_iconst (v := nI 2) F.1 F.2.1 dd_Ledger_makeEnd_8 (by decide) ?_
  refine lv_iload_n F.1 F.2.1 dd_Ledger_makeEnd_9 rfl (lv_at hl 2 rfl) ?_
  refine lv_imul F.1 F.2.1 dd_Ledger_makeEnd_10 ?_
  refine lv_iload_n F.1 F.2.1 dd_Ledger_makeEnd_11 rfl (lv_at hl 3 rfl) ?_
  refine lv_iadd F.1 F.2.1 dd_Ledger_makeEnd_12 ?_
  refine zw_gov (zw_rV F hE hP (zc_Store_put lc G b0 S i 0 c (((nI 2) * x) + y) (by first | omega | assumption) (by first | omega | assumption) (by first | omega | assumption)) zk_Store_put za_Store_put zb_Store_put wl_Ledger_103 ⟨rfl, rfl, Nat.le_of_ble_eq_true rfl, Nat.le_of_ble_eq_true rfl⟩ (zc_recv (t := 3) (i := i) (j := 0) hE hP ⟨by decide, (show i < 2 by omega), (show 0 < 9 by omega)⟩ rfl rfl) hl.1 rfl (Nat.le_of_ble_eq_true rfl) ⟨Nat.zero_le _, Nat.zero_le _⟩ dd_Ledger_makeEnd_13) hS (fun _ h => h) (fun H locs hP _ _ hS => ?_)
  refine lv_iload_n F.1 F.2.1 dd_Ledger_makeEnd_16 rfl (lv_at hl 3 rfl) ?_
  refine lv_iconst (v := nI 1) F.1 F.2.1 dd_Ledger_makeEnd_17 (by decide) ?_
  refine lv_icmp_ne F.1 F.2.1 dd_Ledger_makeEnd_18 (tgt := 33) rfl (fun h18 => ?_) (fun h18 => ?_)
  · exact zw_vret F hr hlk hP hS (congrArg (zp_p G b0) (Eq.symm (by rw [if_neg h18, if_neg h18, zs_idv (by rw [zs_ut (by decide), zs_uk (by omega), zs_ut (by decide)]), zs_idv (by rw [zs_ut (by decide), zs_uk (by omega)])]))) dd_Ledger_makeEnd_33
  · refine lv_aload_n F.1 F.2.1 dd_Ledger_makeEnd_21 rfl (lv_at hl 0 rfl) ?_
    refine zc_gF (t := 2) (i := i) (j := 0) F hE hP ⟨by decide, (show i < 2 by omega), (show 0 < 1 by omega)⟩ rfl rfl zi_Ledger 0 (by decide) rfl wf_Ledger_12 rfl dd_Ledger_makeEnd_22 ?_
    refine lv_iload_n F.1 F.2.1 dd_Ledger_makeEnd_25 rfl (lv_at hl 1 rfl) ?_
    refine zw_goi (zw_rS F hE hP (zc_Store_nextSlot lc G b0 (zs_u (zs_u S 4 i 0 c (((nI 2) * x) + y)) 5 i 0 c (nI 1)) c) zk_Store_nextSlot za_Store_nextSlot wl_Ledger_73 ⟨rfl, rfl, Nat.le_of_ble_eq_true rfl, Nat.le_of_ble_eq_true rfl⟩ hl.1 rfl (Nat.le_of_ble_eq_true rfl) ⟨Nat.zero_le _, Nat.zero_le _⟩ dd_Ledger_makeEnd_26) hS (fun _ h => h) (fun H locs hP _ _ hS => ?_)
    refine lv_iconst (v := nI 1) F.1 F.2.1 dd_Ledger_makeEnd_29 (by decide) ?_
    refine zw_gov (zw_rV F hE hP (zc_Store_put lc G b0 (zs_u (zs_u S 4 i 0 c (((nI 2) * x) + y)) 5 i 0 c (nI 1)) i 0 (3 + c) (nI 1) (by first | omega | assumption) (by first | omega | assumption) (by first | omega | assumption)) zk_Store_put za_Store_put zb_Store_put wl_Ledger_103 ⟨rfl, rfl, Nat.le_of_ble_eq_true rfl, Nat.le_of_ble_eq_true rfl⟩ (zc_recv (t := 3) (i := i) (j := 0) hE hP ⟨by decide, (show i < 2 by omega), (show 0 < 9 by omega)⟩ rfl rfl) hl.1 rfl (Nat.le_of_ble_eq_true rfl) ⟨Nat.zero_le _, Nat.zero_le _⟩ dd_Ledger_makeEnd_30) hS (fun _ h => h) (fun H locs hP _ _ hS => ?_)
    exact zw_vret F hr hlk hP hS (congrArg (zp_p G b0) (by rw [if_pos h18, if_pos h18])) dd_Ledger_makeEnd_33
set_option maxHeartbeats 4000000 in
set_option maxRecDepth 100000 in
theorem zc_Ledger_moveEnd (lc : Launch) (G : zw_G) (b0 : Nat) (S : zs_S) (i : Nat) (c : Nat) (x : Int32) (hi : i < 2) (hc : c < 3) : zw_M lc ym_Ledger_moveEnd bm_Ledger_moveEnd 3 none { frames := 2, cells := 0, slots := 0, locals := 42 } G b0 176 (zp_p G b0 S) [.ref (b0 + zp_o 2 i 0), .int (nI c), .int x] (zw_Qv G b0 176 (zp_p G b0 (zs_u (zs_u S 4 i 0 c (nI 2 * x + zs_or (S 4 i 0 c))) 5 i 0 c (nI 1)))) := by
  refine zw_of (by decide) (Nat.le_of_ble_eq_true rfl) ?_
  intro p e s m below meth cx ls F hr hlk hE hP hS hl
  have hl : lv_has ls 3 [(0, .ref (b0 + zp_o 2 i 0)), (1, .int (nI c)), (2, .int x)] := hl
  refine lv_aload_n F.1 F.2.1 dd_Ledger_moveEnd_0 rfl (lv_at hl 0 rfl) ?_
  refine zc_gF (t := 2) (i := i) (j := 0) F hE hP ⟨by decide, (show i < 2 by omega), (show 0 < 1 by omega)⟩ rfl rfl zi_Ledger 0 (by decide) rfl wf_Ledger_12 rfl dd_Ledger_moveEnd_1 ?_
  refine lv_iload_n F.1 F.2.1 dd_Ledger_moveEnd_4 rfl (lv_at hl 1 rfl) ?_
  refine zw_goi (zw_rS F hE hP (zc_Store_endSlot lc G b0 S c) zk_Store_endSlot za_Store_endSlot wl_Ledger_63 ⟨rfl, rfl, Nat.le_of_ble_eq_true rfl, Nat.le_of_ble_eq_true rfl⟩ hl.1 rfl (Nat.le_of_ble_eq_true rfl) ⟨Nat.zero_le _, Nat.zero_le _⟩ dd_Ledger_moveEnd_5) hS (fun _ h => h) (fun H locs hP _ _ hS => ?_)
  refine lv_iconst (v := nI 2) F.1 F.2.1 dd_Ledger_moveEnd_8 (by decide) ?_
  refine lv_iload_n F.1 F.2.1 dd_Ledger_moveEnd_9 rfl (lv_at hl 2 rfl) ?_
  refine lv_imul F.1 F.2.1 dd_Ledger_moveEnd_10 ?_
  refine lv_aload_n F.1 F.2.1 dd_Ledger_moveEnd_11 rfl (lv_at hl 0 rfl) ?_
  refine lv_iload_n F.1 F.2.1 dd_Ledger_moveEnd_12 rfl (lv_at hl 1 rfl) ?_
  refine zw_goi (zw_rV F hE hP (zc_Ledger_orderOf lc G b0 S i c (by first | omega | assumption) (by first | omega | assumption)) zk_Ledger_orderOf za_Ledger_orderOf zb_Ledger_orderOf wl_Ledger_70 ⟨rfl, rfl, Nat.le_of_ble_eq_true rfl, Nat.le_of_ble_eq_true rfl⟩ (zc_recv (t := 2) (i := i) (j := 0) hE hP ⟨by decide, (show i < 2 by omega), (show 0 < 1 by omega)⟩ rfl rfl) hl.1 rfl (Nat.le_of_ble_eq_true rfl) ⟨Nat.zero_le _, Nat.zero_le _⟩ dd_Ledger_moveEnd_13) hS (fun _ h => h) (fun H locs hP _ _ hS => ?_)
  refine lv_iadd F.1 F.2.1 dd_Ledger_moveEnd_16 ?_
  refine zw_gov (zw_rV F hE hP (zc_Store_put lc G b0 S i 0 c (((nI 2) * x) + (zs_or (S 4 i 0 c))) (by first | omega | assumption) (by first | omega | assumption) (by first | omega | assumption)) zk_Store_put za_Store_put zb_Store_put wl_Ledger_103 ⟨rfl, rfl, Nat.le_of_ble_eq_true rfl, Nat.le_of_ble_eq_true rfl⟩ (zc_recv (t := 3) (i := i) (j := 0) hE hP ⟨by decide, (show i < 2 by omega), (show 0 < 9 by omega)⟩ rfl rfl) hl.1 rfl (Nat.le_of_ble_eq_true rfl) ⟨Nat.zero_le _, Nat.zero_le _⟩ dd_Ledger_moveEnd_17) hS (fun _ h => h) (fun H locs hP _ _ hS => ?_)
  exact zw_vret F hr hlk hP hS rfl dd_Ledger_moveEnd_20
def zr_Ledger_startEnd (S : zs_S) (i : Nat) (c : Nat) (w : Int32) : Int32 := if zs_st (S 4 i 0 c) = 0 then (if w = 0 then (nI 0) else (nI 0)) else ((-2))
def zu_Ledger_startEnd (S : zs_S) (i : Nat) (c : Nat) (w : Int32) : zs_S := if zs_st (S 4 i 0 c) = 0 then (if w = 0 then (zs_u (zs_u (zs_u (zs_u S 4 i 0 c (nI 2 * (nI 1) + (nI 0))) 5 i 0 c (nI 1)) 4 i 0 (3 + c) (if (nI 0) = nI 1 then nI 1 else S 4 i 0 (3 + c))) 5 i 0 (3 + c) (if (nI 0) = nI 1 then nI 1 else S 5 i 0 (3 + c))) else (zs_u (zs_u (zs_u (zs_u S 4 i 0 c (nI 2 * (nI 1) + (nI 1))) 5 i 0 c (nI 1)) 4 i 0 (3 + c) (if (nI 1) = nI 1 then nI 1 else S 4 i 0 (3 + c))) 5 i 0 (3 + c) (if (nI 1) = nI 1 then nI 1 else S 5 i 0 (3 + c)))) else (S)
set_option maxHeartbeats 4000000 in
set_option maxRecDepth 100000 in
theorem zc_Ledger_startEnd (lc : Launch) (G : zw_G) (b0 : Nat) (S : zs_S) (i : Nat) (c : Nat) (w : Int32) (hi : i < 2) (hc : c < 3) : zw_M lc ym_Ledger_startEnd bm_Ledger_startEnd 3 (some .int) { frames := 2, cells := 0, slots := 0, locals := 45 } G b0 176 (zp_p G b0 S) [.ref (b0 + zp_o 2 i 0), .int (nI c), .int w] (zw_Qi G b0 176 (zp_p G b0 (zu_Ledger_startEnd S i c w)) (zr_Ledger_startEnd S i c w)) := by
  refine zw_of (by decide) (Nat.le_of_ble_eq_true rfl) ?_
  intro p e s m below meth cx ls F hr hlk hE hP hS hl
  have hl : lv_has ls 3 [(0, .ref (b0 + zp_o 2 i 0)), (1, .int (nI c)), (2, .int w)] := hl
  refine lv_aload_n F.1 F.2.1 dd_Ledger_startEnd_0 rfl (lv_at hl 0 rfl) ?_
  refine lv_iload_n F.1 F.2.1 dd_Ledger_startEnd_1 rfl (lv_at hl 1 rfl) ?_
  refine zw_goi (zw_rV F hE hP (zc_Ledger_stateOf lc G b0 S i c (by first | omega | assumption) (by first | omega | assumption)) zk_Ledger_stateOf za_Ledger_stateOf zb_Ledger_stateOf wl_Ledger_96 ⟨rfl, rfl, Nat.le_of_ble_eq_true rfl, Nat.le_of_ble_eq_true rfl⟩ (zc_recv (t := 2) (i := i) (j := 0) hE hP ⟨by decide, (show i < 2 by omega), (show 0 < 1 by omega)⟩ rfl rfl) hl.1 rfl (Nat.le_of_ble_eq_true rfl) ⟨Nat.zero_le _, Nat.zero_le _⟩ dd_Ledger_startEnd_2) hS (fun _ h => h) (fun H locs hP _ _ hS => ?_)
  refine lv_if_eq F.1 F.2.1 dd_Ledger_startEnd_5 (tgt := 11) rfl (fun h5 => ?_) (fun h5 => ?_)
  · refine lv_aload_n F.1 F.2.1 dd_Ledger_startEnd_11 rfl (lv_at hl 0 rfl) ?_
    refine lv_iload_n F.1 F.2.1 dd_Ledger_startEnd_12 rfl (lv_at hl 1 rfl) ?_
    refine lv_iconst (v := nI 1) F.1 F.2.1 dd_Ledger_startEnd_13 (by decide) ?_
    refine lv_iload_n F.1 F.2.1 dd_Ledger_startEnd_14 rfl (lv_at hl 2 rfl) ?_
    refine lv_if_eq F.1 F.2.1 dd_Ledger_startEnd_15 (tgt := 22) rfl (fun h15 => ?_) (fun h15 => ?_)
    · refine lv_iconst (v := nI 0) F.1 F.2.1 dd_Ledger_startEnd_22 (by decide) ?_
      refine zw_gov (zw_rV F hE hP (zc_Ledger_makeEnd lc G b0 S i c (nI 1) (nI 0) (by first | omega | assumption) (by first | omega | assumption)) zk_Ledger_makeEnd za_Ledger_makeEnd zb_Ledger_makeEnd wl_Ledger_99 ⟨rfl, rfl, Nat.le_of_ble_eq_true rfl, Nat.le_of_ble_eq_true rfl⟩ (zc_recv (t := 2) (i := i) (j := 0) hE hP ⟨by decide, (show i < 2 by omega), (show 0 < 1 by omega)⟩ rfl rfl) hl.1 rfl (Nat.le_of_ble_eq_true rfl) ⟨Nat.zero_le _, Nat.zero_le _⟩ dd_Ledger_startEnd_23) hS (fun _ h => h) (fun H locs hP _ _ hS => ?_)
      refine lv_iconst (v := nI 0) F.1 F.2.1 dd_Ledger_startEnd_26 (by decide) ?_
      exact zw_iret F hr hlk hP hS (congrArg (zp_p G b0) (by rw [zu_Ledger_startEnd, if_pos h5, if_pos h15])) (by rw [zr_Ledger_startEnd, if_pos h5, if_pos h15]) dd_Ledger_startEnd_27
    · refine lv_iconst (v := nI 1) F.1 F.2.1 dd_Ledger_startEnd_18 (by decide) ?_
      refine lv_goto F.1 F.2.1 dd_Ledger_startEnd_19 (tgt := 23) rfl ?_
      refine zw_gov (zw_rV F hE hP (zc_Ledger_makeEnd lc G b0 S i c (nI 1) (nI 1) (by first | omega | assumption) (by first | omega | assumption)) zk_Ledger_makeEnd za_Ledger_makeEnd zb_Ledger_makeEnd wl_Ledger_99 ⟨rfl, rfl, Nat.le_of_ble_eq_true rfl, Nat.le_of_ble_eq_true rfl⟩ (zc_recv (t := 2) (i := i) (j := 0) hE hP ⟨by decide, (show i < 2 by omega), (show 0 < 1 by omega)⟩ rfl rfl) hl.1 rfl (Nat.le_of_ble_eq_true rfl) ⟨Nat.zero_le _, Nat.zero_le _⟩ dd_Ledger_startEnd_23) hS (fun _ h => h) (fun H locs hP _ _ hS => ?_)
      refine lv_iconst (v := nI 0) F.1 F.2.1 dd_Ledger_startEnd_26 (by decide) ?_
      exact zw_iret F hr hlk hP hS (congrArg (zp_p G b0) (by rw [zu_Ledger_startEnd, if_pos h5, if_neg h15])) (by rw [zr_Ledger_startEnd, if_pos h5, if_neg h15]) dd_Ledger_startEnd_27
  · refine lv_bipush (v := (-2)) F.1 F.2.1 dd_Ledger_startEnd_8 (by decide) ?_
    exact zw_iret F hr hlk hP hS (congrArg (zp_p G b0) (by rw [zu_Ledger_startEnd, if_neg h5])) (by rw [zr_Ledger_startEnd, if_neg h5]) dd_Ledger_startEnd_10
def zr_Ledger_tryEnd (S : zs_S) (i : Nat) (o : Nat) (c : Nat) (w : Int32) (h : Int32) : Int32 := if w = 0 then (if zs_st (S 4 i 0 c) = nI 1 then (if zs_or (S 4 i 0 c) = nI 0 then (if zs_st (S 4 i 0 c) = 0 then (if zs_pv S i o h c (nI 2 * (nI 1) + (nI 0)) = 0 then (nI 0) else (zs_pv S i o h c (nI 2 * (nI 1) + (nI 0)))) else (if zs_pv S i o h c (nI 2 * (nI 1) + (nI 0)) = 0 then (nI 0) else (zs_pv S i o h c (nI 2 * (nI 1) + (nI 0))))) else (if zs_st (S 4 i 0 c) = 0 then (if zs_pv S i o h c (nI 2 * (nI 1) + (nI 0)) = 0 then (nI 0) else (zs_pv S i o h c (nI 2 * (nI 1) + (nI 0)))) else ((-2)))) else (if zs_st (S 4 i 0 c) = 0 then (if zs_pv S i o h c (nI 2 * (nI 1) + (nI 0)) = 0 then (nI 0) else (zs_pv S i o h c (nI 2 * (nI 1) + (nI 0)))) else ((-2)))) else (if zs_st (S 4 i 0 c) = nI 1 then (if zs_or (S 4 i 0 c) = nI 1 then (if zs_st (S 4 i 0 c) = 0 then (if zs_pv S i o h c (nI 2 * (nI 1) + (nI 1)) = 0 then (nI 0) else (zs_pv S i o h c (nI 2 * (nI 1) + (nI 1)))) else (if zs_pv S i o h c (nI 2 * (nI 1) + (nI 1)) = 0 then (nI 0) else (zs_pv S i o h c (nI 2 * (nI 1) + (nI 1))))) else (if zs_st (S 4 i 0 c) = 0 then (if zs_pv S i o h c (nI 2 * (nI 1) + (nI 1)) = 0 then (nI 0) else (zs_pv S i o h c (nI 2 * (nI 1) + (nI 1)))) else ((-2)))) else (if zs_st (S 4 i 0 c) = 0 then (if zs_pv S i o h c (nI 2 * (nI 1) + (nI 1)) = 0 then (nI 0) else (zs_pv S i o h c (nI 2 * (nI 1) + (nI 1)))) else ((-2))))
def zu_Ledger_tryEnd (S : zs_S) (i : Nat) (o : Nat) (c : Nat) (w : Int32) (h : Int32) : zs_S := if w = 0 then (if zs_st (S 4 i 0 c) = nI 1 then (if zs_or (S 4 i 0 c) = nI 0 then (if zs_st (S 4 i 0 c) = 0 then (if zs_pv S i o h c (nI 2 * (nI 1) + (nI 0)) = 0 then (zs_u (zs_u (zs_u (zs_u S 4 i 0 c (nI 2 * (nI 2) + (nI 0))) 5 i 0 c (nI 1)) 4 i 0 (3 + c) (if (nI 0) = nI 1 then nI 1 else S 4 i 0 (3 + c))) 5 i 0 (3 + c) (if (nI 0) = nI 1 then nI 1 else S 5 i 0 (3 + c))) else (S)) else (if zs_pv S i o h c (nI 2 * (nI 1) + (nI 0)) = 0 then (zs_u (zs_u (zs_u (zs_u S 4 i 0 c (nI 2 * (nI 2) + (nI 0))) 5 i 0 c (nI 1)) 4 i 0 (3 + c) (if (nI 0) = nI 1 then nI 1 else S 4 i 0 (3 + c))) 5 i 0 (3 + c) (if (nI 0) = nI 1 then nI 1 else S 5 i 0 (3 + c))) else (S))) else (if zs_st (S 4 i 0 c) = 0 then (if zs_pv S i o h c (nI 2 * (nI 1) + (nI 0)) = 0 then (zs_u (zs_u (zs_u (zs_u S 4 i 0 c (nI 2 * (nI 2) + (nI 0))) 5 i 0 c (nI 1)) 4 i 0 (3 + c) (if (nI 0) = nI 1 then nI 1 else S 4 i 0 (3 + c))) 5 i 0 (3 + c) (if (nI 0) = nI 1 then nI 1 else S 5 i 0 (3 + c))) else (S)) else (S))) else (if zs_st (S 4 i 0 c) = 0 then (if zs_pv S i o h c (nI 2 * (nI 1) + (nI 0)) = 0 then (zs_u (zs_u (zs_u (zs_u S 4 i 0 c (nI 2 * (nI 2) + (nI 0))) 5 i 0 c (nI 1)) 4 i 0 (3 + c) (if (nI 0) = nI 1 then nI 1 else S 4 i 0 (3 + c))) 5 i 0 (3 + c) (if (nI 0) = nI 1 then nI 1 else S 5 i 0 (3 + c))) else (S)) else (S))) else (if zs_st (S 4 i 0 c) = nI 1 then (if zs_or (S 4 i 0 c) = nI 1 then (if zs_st (S 4 i 0 c) = 0 then (if zs_pv S i o h c (nI 2 * (nI 1) + (nI 1)) = 0 then (zs_u (zs_u (zs_u (zs_u S 4 i 0 c (nI 2 * (nI 2) + (nI 1))) 5 i 0 c (nI 1)) 4 i 0 (3 + c) (if (nI 1) = nI 1 then nI 1 else S 4 i 0 (3 + c))) 5 i 0 (3 + c) (if (nI 1) = nI 1 then nI 1 else S 5 i 0 (3 + c))) else (S)) else (if zs_pv S i o h c (nI 2 * (nI 1) + (nI 1)) = 0 then (zs_u (zs_u (zs_u (zs_u S 4 i 0 c (nI 2 * (nI 2) + (nI 1))) 5 i 0 c (nI 1)) 4 i 0 (3 + c) (if (nI 1) = nI 1 then nI 1 else S 4 i 0 (3 + c))) 5 i 0 (3 + c) (if (nI 1) = nI 1 then nI 1 else S 5 i 0 (3 + c))) else (S))) else (if zs_st (S 4 i 0 c) = 0 then (if zs_pv S i o h c (nI 2 * (nI 1) + (nI 1)) = 0 then (zs_u (zs_u (zs_u (zs_u S 4 i 0 c (nI 2 * (nI 2) + (nI 1))) 5 i 0 c (nI 1)) 4 i 0 (3 + c) (if (nI 1) = nI 1 then nI 1 else S 4 i 0 (3 + c))) 5 i 0 (3 + c) (if (nI 1) = nI 1 then nI 1 else S 5 i 0 (3 + c))) else (S)) else (S))) else (if zs_st (S 4 i 0 c) = 0 then (if zs_pv S i o h c (nI 2 * (nI 1) + (nI 1)) = 0 then (zs_u (zs_u (zs_u (zs_u S 4 i 0 c (nI 2 * (nI 2) + (nI 1))) 5 i 0 c (nI 1)) 4 i 0 (3 + c) (if (nI 1) = nI 1 then nI 1 else S 4 i 0 (3 + c))) 5 i 0 (3 + c) (if (nI 1) = nI 1 then nI 1 else S 5 i 0 (3 + c))) else (S)) else (S)))
set_option maxHeartbeats 4000000 in
set_option maxRecDepth 100000 in
theorem zc_Ledger_tryEnd (lc : Launch) (G : zw_G) (b0 : Nat) (S : zs_S) (i : Nat) (o : Nat) (c : Nat) (w : Int32) (h : Int32) (hi : i < 2) (ho : o < 2) (hc : c < 3) (hB : zs_B S) : zw_M lc ym_Ledger_tryEnd bm_Ledger_tryEnd 8 (some .int) { frames := 4, cells := 0, slots := 0, locals := 94 } G b0 176 (zp_p G b0 S) [.ref (b0 + zp_o 2 i 0), .ref (b0 + zp_o 2 o 0), .int (nI c), .int w, .int h] (zw_Qi G b0 176 (zp_p G b0 (zu_Ledger_tryEnd S i o c w h)) (zr_Ledger_tryEnd S i o c w h)) := by
  refine zw_of (by decide) (Nat.le_of_ble_eq_true rfl) ?_
  intro p e s m below meth cx ls F hr hlk hE hP hS hl
  have hl : lv_has ls 8 [(0, .ref (b0 + zp_o 2 i 0)), (1, .ref (b0 + zp_o 2 o 0)), (2, .int (nI c)), (3, .int w), (4, .int h)] := hl
  refine lv_iload_n F.1 F.2.1 dd_Ledger_tryEnd_0 rfl (lv_at hl 3 rfl) ?_
  refine lv_if_eq F.1 F.2.1 dd_Ledger_tryEnd_1 (tgt := 8) rfl (fun h1 => ?_) (fun h1 => ?_)
  · refine lv_iconst (v := nI 0) F.1 F.2.1 dd_Ledger_tryEnd_8 (by decide) ?_
    refine lv_istore F.1 F.2.1 dd_Ledger_tryEnd_9 hl (by decide) (lv' := [(5, .int (nI 0)), (0, .ref (b0 + zp_o 2 i 0)), (1, .ref (b0 + zp_o 2 o 0)), (2, .int (nI c)), (3, .int w), (4, .int h)]) rfl (fun ls hl => ?_)
    refine lv_aload_n F.1 F.2.1 dd_Ledger_tryEnd_11 rfl (lv_at hl 1 rfl) ?_
    refine lv_iload_n F.1 F.2.1 dd_Ledger_tryEnd_12 rfl (lv_at hl 3 rfl) ?_
    refine zw_goi (zw_rV F hE hP (zc_Ledger_stateOf lc G b0 S i c (by first | omega | assumption) (by first | omega | assumption)) zk_Ledger_stateOf za_Ledger_stateOf zb_Ledger_stateOf wl_Ledger_96 ⟨rfl, rfl, Nat.le_of_ble_eq_true rfl, Nat.le_of_ble_eq_true rfl⟩ (zc_recv (t := 2) (i := i) (j := 0) hE hP ⟨by decide, (show i < 2 by omega), (show 0 < 1 by omega)⟩ rfl rfl) hl.1 rfl (Nat.le_of_ble_eq_true rfl) ⟨Nat.zero_le _, Nat.zero_le _⟩ dd_Ledger_tryEnd_13) hS (fun _ h => h) (fun H locs hP _ _ hS => ?_)
    refine lv_iconst (v := nI 1) F.1 F.2.1 dd_Ledger_tryEnd_16 (by decide) ?_
    refine lv_icmp_ne F.1 F.2.1 dd_Ledger_tryEnd_17 (tgt := 34) rfl (fun h17 => ?_) (fun h17 => ?_)
    · refine lv_iconst (v := nI 0) F.1 F.2.1 dd_Ledger_tryEnd_34 (by decide) ?_
      refine lv_istore F.1 F.2.1 dd_Ledger_tryEnd_35 hl (by decide) (lv' := [(6, .int (nI 0)), (5, .int (nI 0)), (0, .ref (b0 + zp_o 2 i 0)), (1, .ref (b0 + zp_o 2 o 0)), (2, .int (nI c)), (3, .int w), (4, .int h)]) rfl (fun ls hl => ?_)
      refine lv_aload_n F.1 F.2.1 dd_Ledger_tryEnd_37 rfl (lv_at hl 2 rfl) ?_
      refine lv_iload_n F.1 F.2.1 dd_Ledger_tryEnd_38 rfl (lv_at hl 4 rfl) ?_
      refine zw_goi (zw_rV F hE hP (zc_Ledger_stateOf lc G b0 S i c (by first | omega | assumption) (by first | omega | assumption)) zk_Ledger_stateOf za_Ledger_stateOf zb_Ledger_stateOf wl_Ledger_96 ⟨rfl, rfl, Nat.le_of_ble_eq_true rfl, Nat.le_of_ble_eq_true rfl⟩ (zc_recv (t := 2) (i := i) (j := 0) hE hP ⟨by decide, (show i < 2 by omega), (show 0 < 1 by omega)⟩ rfl rfl) hl.1 rfl (Nat.le_of_ble_eq_true rfl) ⟨Nat.zero_le _, Nat.zero_le _⟩ dd_Ledger_tryEnd_39) hS (fun _ h => h) (fun H locs hP _ _ hS => ?_)
      refine lv_if_eq F.1 F.2.1 dd_Ledger_tryEnd_42 (tgt := 53) rfl (fun h42 => ?_) (fun h42 => ?_)
      · refine lv_aload_n F.1 F.2.1 dd_Ledger_tryEnd_53 rfl (lv_at hl 2 rfl) ?_
        refine lv_aload_n F.1 F.2.1 dd_Ledger_tryEnd_54 rfl (lv_at hl 3 rfl) ?_
        refine lv_iload F.1 F.2.1 dd_Ledger_tryEnd_55 (lv_at hl 6 rfl) ?_
        refine lv_iload_n F.1 F.2.1 dd_Ledger_tryEnd_57 rfl (lv_at hl 4 rfl) ?_
        refine lv_iconst (v := nI 1) F.1 F.2.1 dd_Ledger_tryEnd_58 (by decide) ?_
        refine lv_iload F.1 F.2.1 dd_Ledger_tryEnd_59 (lv_at hl 1 rfl) ?_
        refine zw_goi (zw_rV F hE hP (zc_Ledger_proveEnd lc G b0 S i o h c (nI 1) (nI 0) (by first | omega | assumption) (by first | omega | assumption) (by first | omega | assumption) (by assumption)) zk_Ledger_proveEnd za_Ledger_proveEnd zb_Ledger_proveEnd wl_Ledger_107 ⟨rfl, rfl, Nat.le_of_ble_eq_true rfl, Nat.le_of_ble_eq_true rfl⟩ (zc_recv (t := 2) (i := i) (j := 0) hE hP ⟨by decide, (show i < 2 by omega), (show 0 < 1 by omega)⟩ rfl rfl) hl.1 rfl (Nat.le_of_ble_eq_true rfl) ⟨Nat.zero_le _, Nat.zero_le _⟩ dd_Ledger_tryEnd_61) hS (fun _ h => h) (fun H locs hP _ _ hS => ?_)
        refine lv_istore F.1 F.2.1 dd_Ledger_tryEnd_64 hl (by decide) (lv' := [(7, .int (zs_pv S i o h c (nI 2 * (nI 1) + (nI 0)))), (6, .int (nI 0)), (5, .int (nI 0)), (0, .ref (b0 + zp_o 2 i 0)), (1, .ref (b0 + zp_o 2 o 0)), (2, .int (nI c)), (3, .int w), (4, .int h)]) rfl (fun ls hl => ?_)
        refine lv_iload F.1 F.2.1 dd_Ledger_tryEnd_66 (lv_at hl 0 rfl) ?_
        refine lv_if_eq F.1 F.2.1 dd_Ledger_tryEnd_68 (tgt := 74) rfl (fun h68 => ?_) (fun h68 => ?_)
        · refine lv_aload_n F.1 F.2.1 dd_Ledger_tryEnd_74 rfl (lv_at hl 3 rfl) ?_
          refine lv_iload_n F.1 F.2.1 dd_Ledger_tryEnd_75 rfl (lv_at hl 5 rfl) ?_
          refine lv_iconst (v := nI 2) F.1 F.2.1 dd_Ledger_tryEnd_76 (by decide) ?_
          refine lv_iload F.1 F.2.1 dd_Ledger_tryEnd_77 (lv_at hl 2 rfl) ?_
          refine zw_gov (zw_rV F hE hP (zc_Ledger_makeEnd lc G b0 S i c (nI 2) (nI 0) (by first | omega | assumption) (by first | omega | assumption)) zk_Ledger_makeEnd za_Ledger_makeEnd zb_Ledger_makeEnd wl_Ledger_99 ⟨rfl, rfl, Nat.le_of_ble_eq_true rfl, Nat.le_of_ble_eq_true rfl⟩ (zc_recv (t := 2) (i := i) (j := 0) hE hP ⟨by decide, (show i < 2 by omega), (show 0 < 1 by omega)⟩ rfl rfl) hl.1 rfl (Nat.le_of_ble_eq_true rfl) ⟨Nat.zero_le _, Nat.zero_le _⟩ dd_Ledger_tryEnd_79) hS (fun _ h => h) (fun H locs hP _ _ hS => ?_)
          refine lv_iconst (v := nI 0) F.1 F.2.1 dd_Ledger_tryEnd_82 (by decide) ?_
          exact zw_iret F hr hlk hP hS (congrArg (zp_p G b0) (by rw [zu_Ledger_tryEnd, if_pos h1, if_neg h17, if_pos h42, if_pos h68])) (by rw [zr_Ledger_tryEnd, if_pos h1, if_neg h17, if_pos h42, if_pos h68]) dd_Ledger_tryEnd_83
        · refine lv_iload F.1 F.2.1 dd_Ledger_tryEnd_71 (lv_at hl 0 rfl) ?_
          exact zw_iret F hr hlk hP hS (congrArg (zp_p G b0) (by rw [zu_Ledger_tryEnd, if_pos h1, if_neg h17, if_pos h42, if_neg h68])) (by rw [zr_Ledger_tryEnd, if_pos h1, if_neg h17, if_pos h42, if_neg h68]) dd_Ledger_tryEnd_73
      · refine lv_iload F.1 F.2.1 dd_Ledger_tryEnd_45 (lv_at hl 0 rfl) ?_
        refine lv_if_ne F.1 F.2.1 dd_Ledger_tryEnd_47 (tgt := 53) rfl (fun h47 => absurd h47 (by decide)) (fun h47 => ?_)
        refine lv_bipush (v := (-2)) F.1 F.2.1 dd_Ledger_tryEnd_50 (by decide) ?_
        exact zw_iret F hr hlk hP hS (congrArg (zp_p G b0) (by rw [zu_Ledger_tryEnd, if_pos h1, if_neg h17, if_neg h42])) (by rw [zr_Ledger_tryEnd, if_pos h1, if_neg h17, if_neg h42]) dd_Ledger_tryEnd_52
    · refine lv_aload_n F.1 F.2.1 dd_Ledger_tryEnd_20 rfl (lv_at hl 1 rfl) ?_
      refine lv_iload_n F.1 F.2.1 dd_Ledger_tryEnd_21 rfl (lv_at hl 3 rfl) ?_
      refine zw_goi (zw_rV F hE hP (zc_Ledger_orderOf lc G b0 S i c (by first | omega | assumption) (by first | omega | assumption)) zk_Ledger_orderOf za_Ledger_orderOf zb_Ledger_orderOf wl_Ledger_70 ⟨rfl, rfl, Nat.le_of_ble_eq_true rfl, Nat.le_of_ble_eq_true rfl⟩ (zc_recv (t := 2) (i := i) (j := 0) hE hP ⟨by decide, (show i < 2 by omega), (show 0 < 1 by omega)⟩ rfl rfl) hl.1 rfl (Nat.le_of_ble_eq_true rfl) ⟨Nat.zero_le _, Nat.zero_le _⟩ dd_Ledger_tryEnd_22) hS (fun _ h => h) (fun H locs hP _ _ hS => ?_)
      refine lv_iload F.1 F.2.1 dd_Ledger_tryEnd_25 (lv_at hl 0 rfl) ?_
      refine lv_icmp_ne F.1 F.2.1 dd_Ledger_tryEnd_27 (tgt := 34) rfl (fun h27 => ?_) (fun h27 => ?_)
      · refine lv_iconst (v := nI 0) F.1 F.2.1 dd_Ledger_tryEnd_34 (by decide) ?_
        refine lv_istore F.1 F.2.1 dd_Ledger_tryEnd_35 hl (by decide) (lv' := [(6, .int (nI 0)), (5, .int (nI 0)), (0, .ref (b0 + zp_o 2 i 0)), (1, .ref (b0 + zp_o 2 o 0)), (2, .int (nI c)), (3, .int w), (4, .int h)]) rfl (fun ls hl => ?_)
        refine lv_aload_n F.1 F.2.1 dd_Ledger_tryEnd_37 rfl (lv_at hl 2 rfl) ?_
        refine lv_iload_n F.1 F.2.1 dd_Ledger_tryEnd_38 rfl (lv_at hl 4 rfl) ?_
        refine zw_goi (zw_rV F hE hP (zc_Ledger_stateOf lc G b0 S i c (by first | omega | assumption) (by first | omega | assumption)) zk_Ledger_stateOf za_Ledger_stateOf zb_Ledger_stateOf wl_Ledger_96 ⟨rfl, rfl, Nat.le_of_ble_eq_true rfl, Nat.le_of_ble_eq_true rfl⟩ (zc_recv (t := 2) (i := i) (j := 0) hE hP ⟨by decide, (show i < 2 by omega), (show 0 < 1 by omega)⟩ rfl rfl) hl.1 rfl (Nat.le_of_ble_eq_true rfl) ⟨Nat.zero_le _, Nat.zero_le _⟩ dd_Ledger_tryEnd_39) hS (fun _ h => h) (fun H locs hP _ _ hS => ?_)
        refine lv_if_eq F.1 F.2.1 dd_Ledger_tryEnd_42 (tgt := 53) rfl (fun h42 => ?_) (fun h42 => ?_)
        · refine lv_aload_n F.1 F.2.1 dd_Ledger_tryEnd_53 rfl (lv_at hl 2 rfl) ?_
          refine lv_aload_n F.1 F.2.1 dd_Ledger_tryEnd_54 rfl (lv_at hl 3 rfl) ?_
          refine lv_iload F.1 F.2.1 dd_Ledger_tryEnd_55 (lv_at hl 6 rfl) ?_
          refine lv_iload_n F.1 F.2.1 dd_Ledger_tryEnd_57 rfl (lv_at hl 4 rfl) ?_
          refine lv_iconst (v := nI 1) F.1 F.2.1 dd_Ledger_tryEnd_58 (by decide) ?_
          refine lv_iload F.1 F.2.1 dd_Ledger_tryEnd_59 (lv_at hl 1 rfl) ?_
          refine zw_goi (zw_rV F hE hP (zc_Ledger_proveEnd lc G b0 S i o h c (nI 1) (nI 0) (by first | omega | assumption) (by first | omega | assumption) (by first | omega | assumption) (by assumption)) zk_Ledger_proveEnd za_Ledger_proveEnd zb_Ledger_proveEnd wl_Ledger_107 ⟨rfl, rfl, Nat.le_of_ble_eq_true rfl, Nat.le_of_ble_eq_true rfl⟩ (zc_recv (t := 2) (i := i) (j := 0) hE hP ⟨by decide, (show i < 2 by omega), (show 0 < 1 by omega)⟩ rfl rfl) hl.1 rfl (Nat.le_of_ble_eq_true rfl) ⟨Nat.zero_le _, Nat.zero_le _⟩ dd_Ledger_tryEnd_61) hS (fun _ h => h) (fun H locs hP _ _ hS => ?_)
          refine lv_istore F.1 F.2.1 dd_Ledger_tryEnd_64 hl (by decide) (lv' := [(7, .int (zs_pv S i o h c (nI 2 * (nI 1) + (nI 0)))), (6, .int (nI 0)), (5, .int (nI 0)), (0, .ref (b0 + zp_o 2 i 0)), (1, .ref (b0 + zp_o 2 o 0)), (2, .int (nI c)), (3, .int w), (4, .int h)]) rfl (fun ls hl => ?_)
          refine lv_iload F.1 F.2.1 dd_Ledger_tryEnd_66 (lv_at hl 0 rfl) ?_
          refine lv_if_eq F.1 F.2.1 dd_Ledger_tryEnd_68 (tgt := 74) rfl (fun h68 => ?_) (fun h68 => ?_)
          · refine lv_aload_n F.1 F.2.1 dd_Ledger_tryEnd_74 rfl (lv_at hl 3 rfl) ?_
            refine lv_iload_n F.1 F.2.1 dd_Ledger_tryEnd_75 rfl (lv_at hl 5 rfl) ?_
            refine lv_iconst (v := nI 2) F.1 F.2.1 dd_Ledger_tryEnd_76 (by decide) ?_
            refine lv_iload F.1 F.2.1 dd_Ledger_tryEnd_77 (lv_at hl 2 rfl) ?_
            refine zw_gov (zw_rV F hE hP (zc_Ledger_makeEnd lc G b0 S i c (nI 2) (nI 0) (by first | omega | assumption) (by first | omega | assumption)) zk_Ledger_makeEnd za_Ledger_makeEnd zb_Ledger_makeEnd wl_Ledger_99 ⟨rfl, rfl, Nat.le_of_ble_eq_true rfl, Nat.le_of_ble_eq_true rfl⟩ (zc_recv (t := 2) (i := i) (j := 0) hE hP ⟨by decide, (show i < 2 by omega), (show 0 < 1 by omega)⟩ rfl rfl) hl.1 rfl (Nat.le_of_ble_eq_true rfl) ⟨Nat.zero_le _, Nat.zero_le _⟩ dd_Ledger_tryEnd_79) hS (fun _ h => h) (fun H locs hP _ _ hS => ?_)
            refine lv_iconst (v := nI 0) F.1 F.2.1 dd_Ledger_tryEnd_82 (by decide) ?_
            exact zw_iret F hr hlk hP hS (congrArg (zp_p G b0) (by rw [zu_Ledger_tryEnd, if_pos h1, if_pos h17, if_neg h27, if_pos h42, if_pos h68])) (by rw [zr_Ledger_tryEnd, if_pos h1, if_pos h17, if_neg h27, if_pos h42, if_pos h68]) dd_Ledger_tryEnd_83
          · refine lv_iload F.1 F.2.1 dd_Ledger_tryEnd_71 (lv_at hl 0 rfl) ?_
            exact zw_iret F hr hlk hP hS (congrArg (zp_p G b0) (by rw [zu_Ledger_tryEnd, if_pos h1, if_pos h17, if_neg h27, if_pos h42, if_neg h68])) (by rw [zr_Ledger_tryEnd, if_pos h1, if_pos h17, if_neg h27, if_pos h42, if_neg h68]) dd_Ledger_tryEnd_73
        · refine lv_iload F.1 F.2.1 dd_Ledger_tryEnd_45 (lv_at hl 0 rfl) ?_
          refine lv_if_ne F.1 F.2.1 dd_Ledger_tryEnd_47 (tgt := 53) rfl (fun h47 => absurd h47 (by decide)) (fun h47 => ?_)
          refine lv_bipush (v := (-2)) F.1 F.2.1 dd_Ledger_tryEnd_50 (by decide) ?_
          exact zw_iret F hr hlk hP hS (congrArg (zp_p G b0) (by rw [zu_Ledger_tryEnd, if_pos h1, if_pos h17, if_neg h27, if_neg h42])) (by rw [zr_Ledger_tryEnd, if_pos h1, if_pos h17, if_neg h27, if_neg h42]) dd_Ledger_tryEnd_52
      · refine lv_iconst (v := nI 1) F.1 F.2.1 dd_Ledger_tryEnd_30 (by decide) ?_
        refine lv_goto F.1 F.2.1 dd_Ledger_tryEnd_31 (tgt := 35) rfl ?_
        refine lv_istore F.1 F.2.1 dd_Ledger_tryEnd_35 hl (by decide) (lv' := [(6, .int (nI 1)), (5, .int (nI 0)), (0, .ref (b0 + zp_o 2 i 0)), (1, .ref (b0 + zp_o 2 o 0)), (2, .int (nI c)), (3, .int w), (4, .int h)]) rfl (fun ls hl => ?_)
        refine lv_aload_n F.1 F.2.1 dd_Ledger_tryEnd_37 rfl (lv_at hl 2 rfl) ?_
        refine lv_iload_n F.1 F.2.1 dd_Ledger_tryEnd_38 rfl (lv_at hl 4 rfl) ?_
        refine zw_goi (zw_rV F hE hP (zc_Ledger_stateOf lc G b0 S i c (by first | omega | assumption) (by first | omega | assumption)) zk_Ledger_stateOf za_Ledger_stateOf zb_Ledger_stateOf wl_Ledger_96 ⟨rfl, rfl, Nat.le_of_ble_eq_true rfl, Nat.le_of_ble_eq_true rfl⟩ (zc_recv (t := 2) (i := i) (j := 0) hE hP ⟨by decide, (show i < 2 by omega), (show 0 < 1 by omega)⟩ rfl rfl) hl.1 rfl (Nat.le_of_ble_eq_true rfl) ⟨Nat.zero_le _, Nat.zero_le _⟩ dd_Ledger_tryEnd_39) hS (fun _ h => h) (fun H locs hP _ _ hS => ?_)
        refine lv_if_eq F.1 F.2.1 dd_Ledger_tryEnd_42 (tgt := 53) rfl (fun h42 => ?_) (fun h42 => ?_)
        · refine lv_aload_n F.1 F.2.1 dd_Ledger_tryEnd_53 rfl (lv_at hl 2 rfl) ?_
          refine lv_aload_n F.1 F.2.1 dd_Ledger_tryEnd_54 rfl (lv_at hl 3 rfl) ?_
          refine lv_iload F.1 F.2.1 dd_Ledger_tryEnd_55 (lv_at hl 6 rfl) ?_
          refine lv_iload_n F.1 F.2.1 dd_Ledger_tryEnd_57 rfl (lv_at hl 4 rfl) ?_
          refine lv_iconst (v := nI 1) F.1 F.2.1 dd_Ledger_tryEnd_58 (by decide) ?_
          refine lv_iload F.1 F.2.1 dd_Ledger_tryEnd_59 (lv_at hl 1 rfl) ?_
          refine zw_goi (zw_rV F hE hP (zc_Ledger_proveEnd lc G b0 S i o h c (nI 1) (nI 0) (by first | omega | assumption) (by first | omega | assumption) (by first | omega | assumption) (by assumption)) zk_Ledger_proveEnd za_Ledger_proveEnd zb_Ledger_proveEnd wl_Ledger_107 ⟨rfl, rfl, Nat.le_of_ble_eq_true rfl, Nat.le_of_ble_eq_true rfl⟩ (zc_recv (t := 2) (i := i) (j := 0) hE hP ⟨by decide, (show i < 2 by omega), (show 0 < 1 by omega)⟩ rfl rfl) hl.1 rfl (Nat.le_of_ble_eq_true rfl) ⟨Nat.zero_le _, Nat.zero_le _⟩ dd_Ledger_tryEnd_61) hS (fun _ h => h) (fun H locs hP _ _ hS => ?_)
          refine lv_istore F.1 F.2.1 dd_Ledger_tryEnd_64 hl (by decide) (lv' := [(7, .int (zs_pv S i o h c (nI 2 * (nI 1) + (nI 0)))), (6, .int (nI 1)), (5, .int (nI 0)), (0, .ref (b0 + zp_o 2 i 0)), (1, .ref (b0 + zp_o 2 o 0)), (2, .int (nI c)), (3, .int w), (4, .int h)]) rfl (fun ls hl => ?_)
          refine lv_iload F.1 F.2.1 dd_Ledger_tryEnd_66 (lv_at hl 0 rfl) ?_
          refine lv_if_eq F.1 F.2.1 dd_Ledger_tryEnd_68 (tgt := 74) rfl (fun h68 => ?_) (fun h68 => ?_)
          · refine lv_aload_n F.1 F.2.1 dd_Ledger_tryEnd_74 rfl (lv_at hl 3 rfl) ?_
            refine lv_iload_n F.1 F.2.1 dd_Ledger_tryEnd_75 rfl (lv_at hl 5 rfl) ?_
            refine lv_iconst (v := nI 2) F.1 F.2.1 dd_Ledger_tryEnd_76 (by decide) ?_
            refine lv_iload F.1 F.2.1 dd_Ledger_tryEnd_77 (lv_at hl 2 rfl) ?_
            refine zw_gov (zw_rV F hE hP (zc_Ledger_makeEnd lc G b0 S i c (nI 2) (nI 0) (by first | omega | assumption) (by first | omega | assumption)) zk_Ledger_makeEnd za_Ledger_makeEnd zb_Ledger_makeEnd wl_Ledger_99 ⟨rfl, rfl, Nat.le_of_ble_eq_true rfl, Nat.le_of_ble_eq_true rfl⟩ (zc_recv (t := 2) (i := i) (j := 0) hE hP ⟨by decide, (show i < 2 by omega), (show 0 < 1 by omega)⟩ rfl rfl) hl.1 rfl (Nat.le_of_ble_eq_true rfl) ⟨Nat.zero_le _, Nat.zero_le _⟩ dd_Ledger_tryEnd_79) hS (fun _ h => h) (fun H locs hP _ _ hS => ?_)
            refine lv_iconst (v := nI 0) F.1 F.2.1 dd_Ledger_tryEnd_82 (by decide) ?_
            exact zw_iret F hr hlk hP hS (congrArg (zp_p G b0) (by rw [zu_Ledger_tryEnd, if_pos h1, if_pos h17, if_pos h27, if_pos h42, if_pos h68])) (by rw [zr_Ledger_tryEnd, if_pos h1, if_pos h17, if_pos h27, if_pos h42, if_pos h68]) dd_Ledger_tryEnd_83
          · refine lv_iload F.1 F.2.1 dd_Ledger_tryEnd_71 (lv_at hl 0 rfl) ?_
            exact zw_iret F hr hlk hP hS (congrArg (zp_p G b0) (by rw [zu_Ledger_tryEnd, if_pos h1, if_pos h17, if_pos h27, if_pos h42, if_neg h68])) (by rw [zr_Ledger_tryEnd, if_pos h1, if_pos h17, if_pos h27, if_pos h42, if_neg h68]) dd_Ledger_tryEnd_73
        · refine lv_iload F.1 F.2.1 dd_Ledger_tryEnd_45 (lv_at hl 0 rfl) ?_
          refine lv_if_ne F.1 F.2.1 dd_Ledger_tryEnd_47 (tgt := 53) rfl (fun h47 => ?_) (fun h47 => absurd h47 (by decide))
          refine lv_aload_n F.1 F.2.1 dd_Ledger_tryEnd_53 rfl (lv_at hl 2 rfl) ?_
          refine lv_aload_n F.1 F.2.1 dd_Ledger_tryEnd_54 rfl (lv_at hl 3 rfl) ?_
          refine lv_iload F.1 F.2.1 dd_Ledger_tryEnd_55 (lv_at hl 6 rfl) ?_
          refine lv_iload_n F.1 F.2.1 dd_Ledger_tryEnd_57 rfl (lv_at hl 4 rfl) ?_
          refine lv_iconst (v := nI 1) F.1 F.2.1 dd_Ledger_tryEnd_58 (by decide) ?_
          refine lv_iload F.1 F.2.1 dd_Ledger_tryEnd_59 (lv_at hl 1 rfl) ?_
          refine zw_goi (zw_rV F hE hP (zc_Ledger_proveEnd lc G b0 S i o h c (nI 1) (nI 0) (by first | omega | assumption) (by first | omega | assumption) (by first | omega | assumption) (by assumption)) zk_Ledger_proveEnd za_Ledger_proveEnd zb_Ledger_proveEnd wl_Ledger_107 ⟨rfl, rfl, Nat.le_of_ble_eq_true rfl, Nat.le_of_ble_eq_true rfl⟩ (zc_recv (t := 2) (i := i) (j := 0) hE hP ⟨by decide, (show i < 2 by omega), (show 0 < 1 by omega)⟩ rfl rfl) hl.1 rfl (Nat.le_of_ble_eq_true rfl) ⟨Nat.zero_le _, Nat.zero_le _⟩ dd_Ledger_tryEnd_61) hS (fun _ h => h) (fun H locs hP _ _ hS => ?_)
          refine lv_istore F.1 F.2.1 dd_Ledger_tryEnd_64 hl (by decide) (lv' := [(7, .int (zs_pv S i o h c (nI 2 * (nI 1) + (nI 0)))), (6, .int (nI 1)), (5, .int (nI 0)), (0, .ref (b0 + zp_o 2 i 0)), (1, .ref (b0 + zp_o 2 o 0)), (2, .int (nI c)), (3, .int w), (4, .int h)]) rfl (fun ls hl => ?_)
          refine lv_iload F.1 F.2.1 dd_Ledger_tryEnd_66 (lv_at hl 0 rfl) ?_
          refine lv_if_eq F.1 F.2.1 dd_Ledger_tryEnd_68 (tgt := 74) rfl (fun h68 => ?_) (fun h68 => ?_)
          · refine lv_aload_n F.1 F.2.1 dd_Ledger_tryEnd_74 rfl (lv_at hl 3 rfl) ?_
            refine lv_iload_n F.1 F.2.1 dd_Ledger_tryEnd_75 rfl (lv_at hl 5 rfl) ?_
            refine lv_iconst (v := nI 2) F.1 F.2.1 dd_Ledger_tryEnd_76 (by decide) ?_
            refine lv_iload F.1 F.2.1 dd_Ledger_tryEnd_77 (lv_at hl 2 rfl) ?_
            refine zw_gov (zw_rV F hE hP (zc_Ledger_makeEnd lc G b0 S i c (nI 2) (nI 0) (by first | omega | assumption) (by first | omega | assumption)) zk_Ledger_makeEnd za_Ledger_makeEnd zb_Ledger_makeEnd wl_Ledger_99 ⟨rfl, rfl, Nat.le_of_ble_eq_true rfl, Nat.le_of_ble_eq_true rfl⟩ (zc_recv (t := 2) (i := i) (j := 0) hE hP ⟨by decide, (show i < 2 by omega), (show 0 < 1 by omega)⟩ rfl rfl) hl.1 rfl (Nat.le_of_ble_eq_true rfl) ⟨Nat.zero_le _, Nat.zero_le _⟩ dd_Ledger_tryEnd_79) hS (fun _ h => h) (fun H locs hP _ _ hS => ?_)
            refine lv_iconst (v := nI 0) F.1 F.2.1 dd_Ledger_tryEnd_82 (by decide) ?_
            exact zw_iret F hr hlk hP hS (congrArg (zp_p G b0) (by rw [zu_Ledger_tryEnd, if_pos h1, if_pos h17, if_pos h27, if_neg h42, if_pos h68])) (by rw [zr_Ledger_tryEnd, if_pos h1, if_pos h17, if_pos h27, if_neg h42, if_pos h68]) dd_Ledger_tryEnd_83
          · refine lv_iload F.1 F.2.1 dd_Ledger_tryEnd_71 (lv_at hl 0 rfl) ?_
            exact zw_iret F hr hlk hP hS (congrArg (zp_p G b0) (by rw [zu_Ledger_tryEnd, if_pos h1, if_pos h17, if_pos h27, if_neg h42, if_neg h68])) (by rw [zr_Ledger_tryEnd, if_pos h1, if_pos h17, if_pos h27, if_neg h42, if_neg h68]) dd_Ledger_tryEnd_73
  · refine lv_iconst (v := nI 1) F.1 F.2.1 dd_Ledger_tryEnd_4 (by decide) ?_
    refine lv_goto F.1 F.2.1 dd_Ledger_tryEnd_5 (tgt := 9) rfl ?_
    refine lv_istore F.1 F.2.1 dd_Ledger_tryEnd_9 hl (by decide) (lv' := [(5, .int (nI 1)), (0, .ref (b0 + zp_o 2 i 0)), (1, .ref (b0 + zp_o 2 o 0)), (2, .int (nI c)), (3, .int w), (4, .int h)]) rfl (fun ls hl => ?_)
    refine lv_aload_n F.1 F.2.1 dd_Ledger_tryEnd_11 rfl (lv_at hl 1 rfl) ?_
    refine lv_iload_n F.1 F.2.1 dd_Ledger_tryEnd_12 rfl (lv_at hl 3 rfl) ?_
    refine zw_goi (zw_rV F hE hP (zc_Ledger_stateOf lc G b0 S i c (by first | omega | assumption) (by first | omega | assumption)) zk_Ledger_stateOf za_Ledger_stateOf zb_Ledger_stateOf wl_Ledger_96 ⟨rfl, rfl, Nat.le_of_ble_eq_true rfl, Nat.le_of_ble_eq_true rfl⟩ (zc_recv (t := 2) (i := i) (j := 0) hE hP ⟨by decide, (show i < 2 by omega), (show 0 < 1 by omega)⟩ rfl rfl) hl.1 rfl (Nat.le_of_ble_eq_true rfl) ⟨Nat.zero_le _, Nat.zero_le _⟩ dd_Ledger_tryEnd_13) hS (fun _ h => h) (fun H locs hP _ _ hS => ?_)
    refine lv_iconst (v := nI 1) F.1 F.2.1 dd_Ledger_tryEnd_16 (by decide) ?_
    refine lv_icmp_ne F.1 F.2.1 dd_Ledger_tryEnd_17 (tgt := 34) rfl (fun h17 => ?_) (fun h17 => ?_)
    · refine lv_iconst (v := nI 0) F.1 F.2.1 dd_Ledger_tryEnd_34 (by decide) ?_
      refine lv_istore F.1 F.2.1 dd_Ledger_tryEnd_35 hl (by decide) (lv' := [(6, .int (nI 0)), (5, .int (nI 1)), (0, .ref (b0 + zp_o 2 i 0)), (1, .ref (b0 + zp_o 2 o 0)), (2, .int (nI c)), (3, .int w), (4, .int h)]) rfl (fun ls hl => ?_)
      refine lv_aload_n F.1 F.2.1 dd_Ledger_tryEnd_37 rfl (lv_at hl 2 rfl) ?_
      refine lv_iload_n F.1 F.2.1 dd_Ledger_tryEnd_38 rfl (lv_at hl 4 rfl) ?_
      refine zw_goi (zw_rV F hE hP (zc_Ledger_stateOf lc G b0 S i c (by first | omega | assumption) (by first | omega | assumption)) zk_Ledger_stateOf za_Ledger_stateOf zb_Ledger_stateOf wl_Ledger_96 ⟨rfl, rfl, Nat.le_of_ble_eq_true rfl, Nat.le_of_ble_eq_true rfl⟩ (zc_recv (t := 2) (i := i) (j := 0) hE hP ⟨by decide, (show i < 2 by omega), (show 0 < 1 by omega)⟩ rfl rfl) hl.1 rfl (Nat.le_of_ble_eq_true rfl) ⟨Nat.zero_le _, Nat.zero_le _⟩ dd_Ledger_tryEnd_39) hS (fun _ h => h) (fun H locs hP _ _ hS => ?_)
      refine lv_if_eq F.1 F.2.1 dd_Ledger_tryEnd_42 (tgt := 53) rfl (fun h42 => ?_) (fun h42 => ?_)
      · refine lv_aload_n F.1 F.2.1 dd_Ledger_tryEnd_53 rfl (lv_at hl 2 rfl) ?_
        refine lv_aload_n F.1 F.2.1 dd_Ledger_tryEnd_54 rfl (lv_at hl 3 rfl) ?_
        refine lv_iload F.1 F.2.1 dd_Ledger_tryEnd_55 (lv_at hl 6 rfl) ?_
        refine lv_iload_n F.1 F.2.1 dd_Ledger_tryEnd_57 rfl (lv_at hl 4 rfl) ?_
        refine lv_iconst (v := nI 1) F.1 F.2.1 dd_Ledger_tryEnd_58 (by decide) ?_
        refine lv_iload F.1 F.2.1 dd_Ledger_tryEnd_59 (lv_at hl 1 rfl) ?_
        refine zw_goi (zw_rV F hE hP (zc_Ledger_proveEnd lc G b0 S i o h c (nI 1) (nI 1) (by first | omega | assumption) (by first | omega | assumption) (by first | omega | assumption) (by assumption)) zk_Ledger_proveEnd za_Ledger_proveEnd zb_Ledger_proveEnd wl_Ledger_107 ⟨rfl, rfl, Nat.le_of_ble_eq_true rfl, Nat.le_of_ble_eq_true rfl⟩ (zc_recv (t := 2) (i := i) (j := 0) hE hP ⟨by decide, (show i < 2 by omega), (show 0 < 1 by omega)⟩ rfl rfl) hl.1 rfl (Nat.le_of_ble_eq_true rfl) ⟨Nat.zero_le _, Nat.zero_le _⟩ dd_Ledger_tryEnd_61) hS (fun _ h => h) (fun H locs hP _ _ hS => ?_)
        refine lv_istore F.1 F.2.1 dd_Ledger_tryEnd_64 hl (by decide) (lv' := [(7, .int (zs_pv S i o h c (nI 2 * (nI 1) + (nI 1)))), (6, .int (nI 0)), (5, .int (nI 1)), (0, .ref (b0 + zp_o 2 i 0)), (1, .ref (b0 + zp_o 2 o 0)), (2, .int (nI c)), (3, .int w), (4, .int h)]) rfl (fun ls hl => ?_)
        refine lv_iload F.1 F.2.1 dd_Ledger_tryEnd_66 (lv_at hl 0 rfl) ?_
        refine lv_if_eq F.1 F.2.1 dd_Ledger_tryEnd_68 (tgt := 74) rfl (fun h68 => ?_) (fun h68 => ?_)
        · refine lv_aload_n F.1 F.2.1 dd_Ledger_tryEnd_74 rfl (lv_at hl 3 rfl) ?_
          refine lv_iload_n F.1 F.2.1 dd_Ledger_tryEnd_75 rfl (lv_at hl 5 rfl) ?_
          refine lv_iconst (v := nI 2) F.1 F.2.1 dd_Ledger_tryEnd_76 (by decide) ?_
          refine lv_iload F.1 F.2.1 dd_Ledger_tryEnd_77 (lv_at hl 2 rfl) ?_
          refine zw_gov (zw_rV F hE hP (zc_Ledger_makeEnd lc G b0 S i c (nI 2) (nI 1) (by first | omega | assumption) (by first | omega | assumption)) zk_Ledger_makeEnd za_Ledger_makeEnd zb_Ledger_makeEnd wl_Ledger_99 ⟨rfl, rfl, Nat.le_of_ble_eq_true rfl, Nat.le_of_ble_eq_true rfl⟩ (zc_recv (t := 2) (i := i) (j := 0) hE hP ⟨by decide, (show i < 2 by omega), (show 0 < 1 by omega)⟩ rfl rfl) hl.1 rfl (Nat.le_of_ble_eq_true rfl) ⟨Nat.zero_le _, Nat.zero_le _⟩ dd_Ledger_tryEnd_79) hS (fun _ h => h) (fun H locs hP _ _ hS => ?_)
          refine lv_iconst (v := nI 0) F.1 F.2.1 dd_Ledger_tryEnd_82 (by decide) ?_
          exact zw_iret F hr hlk hP hS (congrArg (zp_p G b0) (by rw [zu_Ledger_tryEnd, if_neg h1, if_neg h17, if_pos h42, if_pos h68])) (by rw [zr_Ledger_tryEnd, if_neg h1, if_neg h17, if_pos h42, if_pos h68]) dd_Ledger_tryEnd_83
        · refine lv_iload F.1 F.2.1 dd_Ledger_tryEnd_71 (lv_at hl 0 rfl) ?_
          exact zw_iret F hr hlk hP hS (congrArg (zp_p G b0) (by rw [zu_Ledger_tryEnd, if_neg h1, if_neg h17, if_pos h42, if_neg h68])) (by rw [zr_Ledger_tryEnd, if_neg h1, if_neg h17, if_pos h42, if_neg h68]) dd_Ledger_tryEnd_73
      · refine lv_iload F.1 F.2.1 dd_Ledger_tryEnd_45 (lv_at hl 0 rfl) ?_
        refine lv_if_ne F.1 F.2.1 dd_Ledger_tryEnd_47 (tgt := 53) rfl (fun h47 => absurd h47 (by decide)) (fun h47 => ?_)
        refine lv_bipush (v := (-2)) F.1 F.2.1 dd_Ledger_tryEnd_50 (by decide) ?_
        exact zw_iret F hr hlk hP hS (congrArg (zp_p G b0) (by rw [zu_Ledger_tryEnd, if_neg h1, if_neg h17, if_neg h42])) (by rw [zr_Ledger_tryEnd, if_neg h1, if_neg h17, if_neg h42]) dd_Ledger_tryEnd_52
    · refine lv_aload_n F.1 F.2.1 dd_Ledger_tryEnd_20 rfl (lv_at hl 1 rfl) ?_
      refine lv_iload_n F.1 F.2.1 dd_Ledger_tryEnd_21 rfl (lv_at hl 3 rfl) ?_
      refine zw_goi (zw_rV F hE hP (zc_Ledger_orderOf lc G b0 S i c (by first | omega | assumption) (by first | omega | assumption)) zk_Ledger_orderOf za_Ledger_orderOf zb_Ledger_orderOf wl_Ledger_70 ⟨rfl, rfl, Nat.le_of_ble_eq_true rfl, Nat.le_of_ble_eq_true rfl⟩ (zc_recv (t := 2) (i := i) (j := 0) hE hP ⟨by decide, (show i < 2 by omega), (show 0 < 1 by omega)⟩ rfl rfl) hl.1 rfl (Nat.le_of_ble_eq_true rfl) ⟨Nat.zero_le _, Nat.zero_le _⟩ dd_Ledger_tryEnd_22) hS (fun _ h => h) (fun H locs hP _ _ hS => ?_)
      refine lv_iload F.1 F.2.1 dd_Ledger_tryEnd_25 (lv_at hl 0 rfl) ?_
      refine lv_icmp_ne F.1 F.2.1 dd_Ledger_tryEnd_27 (tgt := 34) rfl (fun h27 => ?_) (fun h27 => ?_)
      · refine lv_iconst (v := nI 0) F.1 F.2.1 dd_Ledger_tryEnd_34 (by decide) ?_
        refine lv_istore F.1 F.2.1 dd_Ledger_tryEnd_35 hl (by decide) (lv' := [(6, .int (nI 0)), (5, .int (nI 1)), (0, .ref (b0 + zp_o 2 i 0)), (1, .ref (b0 + zp_o 2 o 0)), (2, .int (nI c)), (3, .int w), (4, .int h)]) rfl (fun ls hl => ?_)
        refine lv_aload_n F.1 F.2.1 dd_Ledger_tryEnd_37 rfl (lv_at hl 2 rfl) ?_
        refine lv_iload_n F.1 F.2.1 dd_Ledger_tryEnd_38 rfl (lv_at hl 4 rfl) ?_
        refine zw_goi (zw_rV F hE hP (zc_Ledger_stateOf lc G b0 S i c (by first | omega | assumption) (by first | omega | assumption)) zk_Ledger_stateOf za_Ledger_stateOf zb_Ledger_stateOf wl_Ledger_96 ⟨rfl, rfl, Nat.le_of_ble_eq_true rfl, Nat.le_of_ble_eq_true rfl⟩ (zc_recv (t := 2) (i := i) (j := 0) hE hP ⟨by decide, (show i < 2 by omega), (show 0 < 1 by omega)⟩ rfl rfl) hl.1 rfl (Nat.le_of_ble_eq_true rfl) ⟨Nat.zero_le _, Nat.zero_le _⟩ dd_Ledger_tryEnd_39) hS (fun _ h => h) (fun H locs hP _ _ hS => ?_)
        refine lv_if_eq F.1 F.2.1 dd_Ledger_tryEnd_42 (tgt := 53) rfl (fun h42 => ?_) (fun h42 => ?_)
        · refine lv_aload_n F.1 F.2.1 dd_Ledger_tryEnd_53 rfl (lv_at hl 2 rfl) ?_
          refine lv_aload_n F.1 F.2.1 dd_Ledger_tryEnd_54 rfl (lv_at hl 3 rfl) ?_
          refine lv_iload F.1 F.2.1 dd_Ledger_tryEnd_55 (lv_at hl 6 rfl) ?_
          refine lv_iload_n F.1 F.2.1 dd_Ledger_tryEnd_57 rfl (lv_at hl 4 rfl) ?_
          refine lv_iconst (v := nI 1) F.1 F.2.1 dd_Ledger_tryEnd_58 (by decide) ?_
          refine lv_iload F.1 F.2.1 dd_Ledger_tryEnd_59 (lv_at hl 1 rfl) ?_
          refine zw_goi (zw_rV F hE hP (zc_Ledger_proveEnd lc G b0 S i o h c (nI 1) (nI 1) (by first | omega | assumption) (by first | omega | assumption) (by first | omega | assumption) (by assumption)) zk_Ledger_proveEnd za_Ledger_proveEnd zb_Ledger_proveEnd wl_Ledger_107 ⟨rfl, rfl, Nat.le_of_ble_eq_true rfl, Nat.le_of_ble_eq_true rfl⟩ (zc_recv (t := 2) (i := i) (j := 0) hE hP ⟨by decide, (show i < 2 by omega), (show 0 < 1 by omega)⟩ rfl rfl) hl.1 rfl (Nat.le_of_ble_eq_true rfl) ⟨Nat.zero_le _, Nat.zero_le _⟩ dd_Ledger_tryEnd_61) hS (fun _ h => h) (fun H locs hP _ _ hS => ?_)
          refine lv_istore F.1 F.2.1 dd_Ledger_tryEnd_64 hl (by decide) (lv' := [(7, .int (zs_pv S i o h c (nI 2 * (nI 1) + (nI 1)))), (6, .int (nI 0)), (5, .int (nI 1)), (0, .ref (b0 + zp_o 2 i 0)), (1, .ref (b0 + zp_o 2 o 0)), (2, .int (nI c)), (3, .int w), (4, .int h)]) rfl (fun ls hl => ?_)
          refine lv_iload F.1 F.2.1 dd_Ledger_tryEnd_66 (lv_at hl 0 rfl) ?_
          refine lv_if_eq F.1 F.2.1 dd_Ledger_tryEnd_68 (tgt := 74) rfl (fun h68 => ?_) (fun h68 => ?_)
          · refine lv_aload_n F.1 F.2.1 dd_Ledger_tryEnd_74 rfl (lv_at hl 3 rfl) ?_
            refine lv_iload_n F.1 F.2.1 dd_Ledger_tryEnd_75 rfl (lv_at hl 5 rfl) ?_
            refine lv_iconst (v := nI 2) F.1 F.2.1 dd_Ledger_tryEnd_76 (by decide) ?_
            refine lv_iload F.1 F.2.1 dd_Ledger_tryEnd_77 (lv_at hl 2 rfl) ?_
            refine zw_gov (zw_rV F hE hP (zc_Ledger_makeEnd lc G b0 S i c (nI 2) (nI 1) (by first | omega | assumption) (by first | omega | assumption)) zk_Ledger_makeEnd za_Ledger_makeEnd zb_Ledger_makeEnd wl_Ledger_99 ⟨rfl, rfl, Nat.le_of_ble_eq_true rfl, Nat.le_of_ble_eq_true rfl⟩ (zc_recv (t := 2) (i := i) (j := 0) hE hP ⟨by decide, (show i < 2 by omega), (show 0 < 1 by omega)⟩ rfl rfl) hl.1 rfl (Nat.le_of_ble_eq_true rfl) ⟨Nat.zero_le _, Nat.zero_le _⟩ dd_Ledger_tryEnd_79) hS (fun _ h => h) (fun H locs hP _ _ hS => ?_)
            refine lv_iconst (v := nI 0) F.1 F.2.1 dd_Ledger_tryEnd_82 (by decide) ?_
            exact zw_iret F hr hlk hP hS (congrArg (zp_p G b0) (by rw [zu_Ledger_tryEnd, if_neg h1, if_pos h17, if_neg h27, if_pos h42, if_pos h68])) (by rw [zr_Ledger_tryEnd, if_neg h1, if_pos h17, if_neg h27, if_pos h42, if_pos h68]) dd_Ledger_tryEnd_83
          · refine lv_iload F.1 F.2.1 dd_Ledger_tryEnd_71 (lv_at hl 0 rfl) ?_
            exact zw_iret F hr hlk hP hS (congrArg (zp_p G b0) (by rw [zu_Ledger_tryEnd, if_neg h1, if_pos h17, if_neg h27, if_pos h42, if_neg h68])) (by rw [zr_Ledger_tryEnd, if_neg h1, if_pos h17, if_neg h27, if_pos h42, if_neg h68]) dd_Ledger_tryEnd_73
        · refine lv_iload F.1 F.2.1 dd_Ledger_tryEnd_45 (lv_at hl 0 rfl) ?_
          refine lv_if_ne F.1 F.2.1 dd_Ledger_tryEnd_47 (tgt := 53) rfl (fun h47 => absurd h47 (by decide)) (fun h47 => ?_)
          refine lv_bipush (v := (-2)) F.1 F.2.1 dd_Ledger_tryEnd_50 (by decide) ?_
          exact zw_iret F hr hlk hP hS (congrArg (zp_p G b0) (by rw [zu_Ledger_tryEnd, if_neg h1, if_pos h17, if_neg h27, if_neg h42])) (by rw [zr_Ledger_tryEnd, if_neg h1, if_pos h17, if_neg h27, if_neg h42]) dd_Ledger_tryEnd_52
      · refine lv_iconst (v := nI 1) F.1 F.2.1 dd_Ledger_tryEnd_30 (by decide) ?_
        refine lv_goto F.1 F.2.1 dd_Ledger_tryEnd_31 (tgt := 35) rfl ?_
        refine lv_istore F.1 F.2.1 dd_Ledger_tryEnd_35 hl (by decide) (lv' := [(6, .int (nI 1)), (5, .int (nI 1)), (0, .ref (b0 + zp_o 2 i 0)), (1, .ref (b0 + zp_o 2 o 0)), (2, .int (nI c)), (3, .int w), (4, .int h)]) rfl (fun ls hl => ?_)
        refine lv_aload_n F.1 F.2.1 dd_Ledger_tryEnd_37 rfl (lv_at hl 2 rfl) ?_
        refine lv_iload_n F.1 F.2.1 dd_Ledger_tryEnd_38 rfl (lv_at hl 4 rfl) ?_
        refine zw_goi (zw_rV F hE hP (zc_Ledger_stateOf lc G b0 S i c (by first | omega | assumption) (by first | omega | assumption)) zk_Ledger_stateOf za_Ledger_stateOf zb_Ledger_stateOf wl_Ledger_96 ⟨rfl, rfl, Nat.le_of_ble_eq_true rfl, Nat.le_of_ble_eq_true rfl⟩ (zc_recv (t := 2) (i := i) (j := 0) hE hP ⟨by decide, (show i < 2 by omega), (show 0 < 1 by omega)⟩ rfl rfl) hl.1 rfl (Nat.le_of_ble_eq_true rfl) ⟨Nat.zero_le _, Nat.zero_le _⟩ dd_Ledger_tryEnd_39) hS (fun _ h => h) (fun H locs hP _ _ hS => ?_)
        refine lv_if_eq F.1 F.2.1 dd_Ledger_tryEnd_42 (tgt := 53) rfl (fun h42 => ?_) (fun h42 => ?_)
        · refine lv_aload_n F.1 F.2.1 dd_Ledger_tryEnd_53 rfl (lv_at hl 2 rfl) ?_
          refine lv_aload_n F.1 F.2.1 dd_Ledger_tryEnd_54 rfl (lv_at hl 3 rfl) ?_
          refine lv_iload F.1 F.2.1 dd_Ledger_tryEnd_55 (lv_at hl 6 rfl) ?_
          refine lv_iload_n F.1 F.2.1 dd_Ledger_tryEnd_57 rfl (lv_at hl 4 rfl) ?_
          refine lv_iconst (v := nI 1) F.1 F.2.1 dd_Ledger_tryEnd_58 (by decide) ?_
          refine lv_iload F.1 F.2.1 dd_Ledger_tryEnd_59 (lv_at hl 1 rfl) ?_
          refine zw_goi (zw_rV F hE hP (zc_Ledger_proveEnd lc G b0 S i o h c (nI 1) (nI 1) (by first | omega | assumption) (by first | omega | assumption) (by first | omega | assumption) (by assumption)) zk_Ledger_proveEnd za_Ledger_proveEnd zb_Ledger_proveEnd wl_Ledger_107 ⟨rfl, rfl, Nat.le_of_ble_eq_true rfl, Nat.le_of_ble_eq_true rfl⟩ (zc_recv (t := 2) (i := i) (j := 0) hE hP ⟨by decide, (show i < 2 by omega), (show 0 < 1 by omega)⟩ rfl rfl) hl.1 rfl (Nat.le_of_ble_eq_true rfl) ⟨Nat.zero_le _, Nat.zero_le _⟩ dd_Ledger_tryEnd_61) hS (fun _ h => h) (fun H locs hP _ _ hS => ?_)
          refine lv_istore F.1 F.2.1 dd_Ledger_tryEnd_64 hl (by decide) (lv' := [(7, .int (zs_pv S i o h c (nI 2 * (nI 1) + (nI 1)))), (6, .int (nI 1)), (5, .int (nI 1)), (0, .ref (b0 + zp_o 2 i 0)), (1, .ref (b0 + zp_o 2 o 0)), (2, .int (nI c)), (3, .int w), (4, .int h)]) rfl (fun ls hl => ?_)
          refine lv_iload F.1 F.2.1 dd_Ledger_tryEnd_66 (lv_at hl 0 rfl) ?_
          refine lv_if_eq F.1 F.2.1 dd_Ledger_tryEnd_68 (tgt := 74) rfl (fun h68 => ?_) (fun h68 => ?_)
          · refine lv_aload_n F.1 F.2.1 dd_Ledger_tryEnd_74 rfl (lv_at hl 3 rfl) ?_
            refine lv_iload_n F.1 F.2.1 dd_Ledger_tryEnd_75 rfl (lv_at hl 5 rfl) ?_
            refine lv_iconst (v := nI 2) F.1 F.2.1 dd_Ledger_tryEnd_76 (by decide) ?_
            refine lv_iload F.1 F.2.1 dd_Ledger_tryEnd_77 (lv_at hl 2 rfl) ?_
            refine zw_gov (zw_rV F hE hP (zc_Ledger_makeEnd lc G b0 S i c (nI 2) (nI 1) (by first | omega | assumption) (by first | omega | assumption)) zk_Ledger_makeEnd za_Ledger_makeEnd zb_Ledger_makeEnd wl_Ledger_99 ⟨rfl, rfl, Nat.le_of_ble_eq_true rfl, Nat.le_of_ble_eq_true rfl⟩ (zc_recv (t := 2) (i := i) (j := 0) hE hP ⟨by decide, (show i < 2 by omega), (show 0 < 1 by omega)⟩ rfl rfl) hl.1 rfl (Nat.le_of_ble_eq_true rfl) ⟨Nat.zero_le _, Nat.zero_le _⟩ dd_Ledger_tryEnd_79) hS (fun _ h => h) (fun H locs hP _ _ hS => ?_)
            refine lv_iconst (v := nI 0) F.1 F.2.1 dd_Ledger_tryEnd_82 (by decide) ?_
            exact zw_iret F hr hlk hP hS (congrArg (zp_p G b0) (by rw [zu_Ledger_tryEnd, if_neg h1, if_pos h17, if_pos h27, if_pos h42, if_pos h68])) (by rw [zr_Ledger_tryEnd, if_neg h1, if_pos h17, if_pos h27, if_pos h42, if_pos h68]) dd_Ledger_tryEnd_83
          · refine lv_iload F.1 F.2.1 dd_Ledger_tryEnd_71 (lv_at hl 0 rfl) ?_
            exact zw_iret F hr hlk hP hS (congrArg (zp_p G b0) (by rw [zu_Ledger_tryEnd, if_neg h1, if_pos h17, if_pos h27, if_pos h42, if_neg h68])) (by rw [zr_Ledger_tryEnd, if_neg h1, if_pos h17, if_pos h27, if_pos h42, if_neg h68]) dd_Ledger_tryEnd_73
        · refine lv_iload F.1 F.2.1 dd_Ledger_tryEnd_45 (lv_at hl 0 rfl) ?_
          refine lv_if_ne F.1 F.2.1 dd_Ledger_tryEnd_47 (tgt := 53) rfl (fun h47 => ?_) (fun h47 => absurd h47 (by decide))
          refine lv_aload_n F.1 F.2.1 dd_Ledger_tryEnd_53 rfl (lv_at hl 2 rfl) ?_
          refine lv_aload_n F.1 F.2.1 dd_Ledger_tryEnd_54 rfl (lv_at hl 3 rfl) ?_
          refine lv_iload F.1 F.2.1 dd_Ledger_tryEnd_55 (lv_at hl 6 rfl) ?_
          refine lv_iload_n F.1 F.2.1 dd_Ledger_tryEnd_57 rfl (lv_at hl 4 rfl) ?_
          refine lv_iconst (v := nI 1) F.1 F.2.1 dd_Ledger_tryEnd_58 (by decide) ?_
          refine lv_iload F.1 F.2.1 dd_Ledger_tryEnd_59 (lv_at hl 1 rfl) ?_
          refine zw_goi (zw_rV F hE hP (zc_Ledger_proveEnd lc G b0 S i o h c (nI 1) (nI 1) (by first | omega | assumption) (by first | omega | assumption) (by first | omega | assumption) (by assumption)) zk_Ledger_proveEnd za_Ledger_proveEnd zb_Ledger_proveEnd wl_Ledger_107 ⟨rfl, rfl, Nat.le_of_ble_eq_true rfl, Nat.le_of_ble_eq_true rfl⟩ (zc_recv (t := 2) (i := i) (j := 0) hE hP ⟨by decide, (show i < 2 by omega), (show 0 < 1 by omega)⟩ rfl rfl) hl.1 rfl (Nat.le_of_ble_eq_true rfl) ⟨Nat.zero_le _, Nat.zero_le _⟩ dd_Ledger_tryEnd_61) hS (fun _ h => h) (fun H locs hP _ _ hS => ?_)
          refine lv_istore F.1 F.2.1 dd_Ledger_tryEnd_64 hl (by decide) (lv' := [(7, .int (zs_pv S i o h c (nI 2 * (nI 1) + (nI 1)))), (6, .int (nI 1)), (5, .int (nI 1)), (0, .ref (b0 + zp_o 2 i 0)), (1, .ref (b0 + zp_o 2 o 0)), (2, .int (nI c)), (3, .int w), (4, .int h)]) rfl (fun ls hl => ?_)
          refine lv_iload F.1 F.2.1 dd_Ledger_tryEnd_66 (lv_at hl 0 rfl) ?_
          refine lv_if_eq F.1 F.2.1 dd_Ledger_tryEnd_68 (tgt := 74) rfl (fun h68 => ?_) (fun h68 => ?_)
          · refine lv_aload_n F.1 F.2.1 dd_Ledger_tryEnd_74 rfl (lv_at hl 3 rfl) ?_
            refine lv_iload_n F.1 F.2.1 dd_Ledger_tryEnd_75 rfl (lv_at hl 5 rfl) ?_
            refine lv_iconst (v := nI 2) F.1 F.2.1 dd_Ledger_tryEnd_76 (by decide) ?_
            refine lv_iload F.1 F.2.1 dd_Ledger_tryEnd_77 (lv_at hl 2 rfl) ?_
            refine zw_gov (zw_rV F hE hP (zc_Ledger_makeEnd lc G b0 S i c (nI 2) (nI 1) (by first | omega | assumption) (by first | omega | assumption)) zk_Ledger_makeEnd za_Ledger_makeEnd zb_Ledger_makeEnd wl_Ledger_99 ⟨rfl, rfl, Nat.le_of_ble_eq_true rfl, Nat.le_of_ble_eq_true rfl⟩ (zc_recv (t := 2) (i := i) (j := 0) hE hP ⟨by decide, (show i < 2 by omega), (show 0 < 1 by omega)⟩ rfl rfl) hl.1 rfl (Nat.le_of_ble_eq_true rfl) ⟨Nat.zero_le _, Nat.zero_le _⟩ dd_Ledger_tryEnd_79) hS (fun _ h => h) (fun H locs hP _ _ hS => ?_)
            refine lv_iconst (v := nI 0) F.1 F.2.1 dd_Ledger_tryEnd_82 (by decide) ?_
            exact zw_iret F hr hlk hP hS (congrArg (zp_p G b0) (by rw [zu_Ledger_tryEnd, if_neg h1, if_pos h17, if_pos h27, if_neg h42, if_pos h68])) (by rw [zr_Ledger_tryEnd, if_neg h1, if_pos h17, if_pos h27, if_neg h42, if_pos h68]) dd_Ledger_tryEnd_83
          · refine lv_iload F.1 F.2.1 dd_Ledger_tryEnd_71 (lv_at hl 0 rfl) ?_
            exact zw_iret F hr hlk hP hS (congrArg (zp_p G b0) (by rw [zu_Ledger_tryEnd, if_neg h1, if_pos h17, if_pos h27, if_neg h42, if_neg h68])) (by rw [zr_Ledger_tryEnd, if_neg h1, if_pos h17, if_pos h27, if_neg h42, if_neg h68]) dd_Ledger_tryEnd_73
def zr_Ledger_followEnd (S : zs_S) (i : Nat) (o : Nat) (c : Nat) (h : Int32) (x : Int32) (y : Int32) (z : Int32) : Int32 := if zs_st (S 4 i 0 c) = x then (if zs_pv S i o h c (nI 2 * y + (zs_or (S 4 i 0 c))) = 0 then (nI 0) else (zs_pv S i o h c (nI 2 * y + (zs_or (S 4 i 0 c))))) else ((-2))
def zu_Ledger_followEnd (S : zs_S) (i : Nat) (o : Nat) (c : Nat) (h : Int32) (x : Int32) (y : Int32) (z : Int32) : zs_S := if zs_st (S 4 i 0 c) = x then (if zs_pv S i o h c (nI 2 * y + (zs_or (S 4 i 0 c))) = 0 then (zs_u (zs_u S 4 i 0 c (nI 2 * z + zs_or (S 4 i 0 c))) 5 i 0 c (nI 1)) else (S)) else (S)
set_option maxHeartbeats 4000000 in
set_option maxRecDepth 100000 in
theorem zc_Ledger_followEnd (lc : Launch) (G : zw_G) (b0 : Nat) (S : zs_S) (i : Nat) (o : Nat) (c : Nat) (h : Int32) (x : Int32) (y : Int32) (z : Int32) (hi : i < 2) (ho : o < 2) (hc : c < 3) (hB : zs_B S) : zw_M lc ym_Ledger_followEnd bm_Ledger_followEnd 8 (some .int) { frames := 4, cells := 0, slots := 0, locals := 94 } G b0 176 (zp_p G b0 S) [.ref (b0 + zp_o 2 i 0), .ref (b0 + zp_o 2 o 0), .int (nI c), .int h, .int x, .int y, .int z] (zw_Qi G b0 176 (zp_p G b0 (zu_Ledger_followEnd S i o c h x y z)) (zr_Ledger_followEnd S i o c h x y z)) := by
  refine zw_of (by decide) (Nat.le_of_ble_eq_true rfl) ?_
  intro p e s m below meth cx ls F hr hlk hE hP hS hl
  have hl : lv_has ls 8 [(0, .ref (b0 + zp_o 2 i 0)), (1, .ref (b0 + zp_o 2 o 0)), (2, .int (nI c)), (3, .int h), (4, .int x), (5, .int y), (6, .int z)] := hl
  refine lv_aload_n F.1 F.2.1 dd_Ledger_followEnd_0 rfl (lv_at hl 0 rfl) ?_
  refine lv_iload_n F.1 F.2.1 dd_Ledger_followEnd_1 rfl (lv_at hl 2 rfl) ?_
  refine zw_goi (zw_rV F hE hP (zc_Ledger_stateOf lc G b0 S i c (by first | omega | assumption) (by first | omega | assumption)) zk_Ledger_stateOf za_Ledger_stateOf zb_Ledger_stateOf wl_Ledger_96 ⟨rfl, rfl, Nat.le_of_ble_eq_true rfl, Nat.le_of_ble_eq_true rfl⟩ (zc_recv (t := 2) (i := i) (j := 0) hE hP ⟨by decide, (show i < 2 by omega), (show 0 < 1 by omega)⟩ rfl rfl) hl.1 rfl (Nat.le_of_ble_eq_true rfl) ⟨Nat.zero_le _, Nat.zero_le _⟩ dd_Ledger_followEnd_2) hS (fun _ h => h) (fun H locs hP _ _ hS => ?_)
  refine lv_iload F.1 F.2.1 dd_Ledger_followEnd_5 (lv_at hl 4 rfl) ?_
  refine lv_icmp_eq F.1 F.2.1 dd_Ledger_followEnd_7 (tgt := 13) rfl (fun h7 => ?_) (fun h7 => ?_)
  · refine lv_aload_n F.1 F.2.1 dd_Ledger_followEnd_13 rfl (lv_at hl 0 rfl) ?_
    refine lv_aload_n F.1 F.2.1 dd_Ledger_followEnd_14 rfl (lv_at hl 1 rfl) ?_
    refine lv_iload_n F.1 F.2.1 dd_Ledger_followEnd_15 rfl (lv_at hl 3 rfl) ?_
    refine lv_iload_n F.1 F.2.1 dd_Ledger_followEnd_16 rfl (lv_at hl 2 rfl) ?_
    refine lv_iload F.1 F.2.1 dd_Ledger_followEnd_17 (lv_at hl 5 rfl) ?_
    refine lv_aload_n F.1 F.2.1 dd_Ledger_followEnd_19 rfl (lv_at hl 0 rfl) ?_
    refine lv_iload_n F.1 F.2.1 dd_Ledger_followEnd_20 rfl (lv_at hl 2 rfl) ?_
    refine zw_goi (zw_rV F hE hP (zc_Ledger_orderOf lc G b0 S i c (by first | omega | assumption) (by first | omega | assumption)) zk_Ledger_orderOf za_Ledger_orderOf zb_Ledger_orderOf wl_Ledger_70 ⟨rfl, rfl, Nat.le_of_ble_eq_true rfl, Nat.le_of_ble_eq_true rfl⟩ (zc_recv (t := 2) (i := i) (j := 0) hE hP ⟨by decide, (show i < 2 by omega), (show 0 < 1 by omega)⟩ rfl rfl) hl.1 rfl (Nat.le_of_ble_eq_true rfl) ⟨Nat.zero_le _, Nat.zero_le _⟩ dd_Ledger_followEnd_21) hS (fun _ h => h) (fun H locs hP _ _ hS => ?_)
    refine zw_goi (zw_rV F hE hP (zc_Ledger_proveEnd lc G b0 S i o h c y (zs_or (S 4 i 0 c)) (by first | omega | assumption) (by first | omega | assumption) (by first | omega | assumption) (by assumption)) zk_Ledger_proveEnd za_Ledger_proveEnd zb_Ledger_proveEnd wl_Ledger_107 ⟨rfl, rfl, Nat.le_of_ble_eq_true rfl, Nat.le_of_ble_eq_true rfl⟩ (zc_recv (t := 2) (i := i) (j := 0) hE hP ⟨by decide, (show i < 2 by omega), (show 0 < 1 by omega)⟩ rfl rfl) hl.1 rfl (Nat.le_of_ble_eq_true rfl) ⟨Nat.zero_le _, Nat.zero_le _⟩ dd_Ledger_followEnd_24) hS (fun _ h => h) (fun H locs hP _ _ hS => ?_)
    refine lv_istore F.1 F.2.1 dd_Ledger_followEnd_27 hl (by decide) (lv' := [(7, .int (zs_pv S i o h c (nI 2 * y + (zs_or (S 4 i 0 c))))), (0, .ref (b0 + zp_o 2 i 0)), (1, .ref (b0 + zp_o 2 o 0)), (2, .int (nI c)), (3, .int h), (4, .int x), (5, .int y), (6, .int z)]) rfl (fun ls hl => ?_)
    refine lv_iload F.1 F.2.1 dd_Ledger_followEnd_29 (lv_at hl 0 rfl) ?_
    refine lv_if_eq F.1 F.2.1 dd_Ledger_followEnd_31 (tgt := 37) rfl (fun h31 => ?_) (fun h31 => ?_)
    · refine lv_aload_n F.1 F.2.1 dd_Ledger_followEnd_37 rfl (lv_at hl 1 rfl) ?_
      refine lv_iload_n F.1 F.2.1 dd_Ledger_followEnd_38 rfl (lv_at hl 3 rfl) ?_
      refine lv_iload F.1 F.2.1 dd_Ledger_followEnd_39 (lv_at hl 7 rfl) ?_
      refine zw_gov (zw_rV F hE hP (zc_Ledger_moveEnd lc G b0 S i c z (by first | omega | assumption) (by first | omega | assumption)) zk_Ledger_moveEnd za_Ledger_moveEnd zb_Ledger_moveEnd wl_Ledger_111 ⟨rfl, rfl, Nat.le_of_ble_eq_true rfl, Nat.le_of_ble_eq_true rfl⟩ (zc_recv (t := 2) (i := i) (j := 0) hE hP ⟨by decide, (show i < 2 by omega), (show 0 < 1 by omega)⟩ rfl rfl) hl.1 rfl (Nat.le_of_ble_eq_true rfl) ⟨Nat.zero_le _, Nat.zero_le _⟩ dd_Ledger_followEnd_41) hS (fun _ h => h) (fun H locs hP _ _ hS => ?_)
      refine lv_iconst (v := nI 0) F.1 F.2.1 dd_Ledger_followEnd_44 (by decide) ?_
      exact zw_iret F hr hlk hP hS (congrArg (zp_p G b0) (by rw [zu_Ledger_followEnd, if_pos h7, if_pos h31])) (by rw [zr_Ledger_followEnd, if_pos h7, if_pos h31]) dd_Ledger_followEnd_45
    · refine lv_iload F.1 F.2.1 dd_Ledger_followEnd_34 (lv_at hl 0 rfl) ?_
      exact zw_iret F hr hlk hP hS (congrArg (zp_p G b0) (by rw [zu_Ledger_followEnd, if_pos h7, if_neg h31])) (by rw [zr_Ledger_followEnd, if_pos h7, if_neg h31]) dd_Ledger_followEnd_36
  · refine lv_bipush (v := (-2)) F.1 F.2.1 dd_Ledger_followEnd_10 (by decide) ?_
    exact zw_iret F hr hlk hP hS (congrArg (zp_p G b0) (by rw [zu_Ledger_followEnd, if_neg h7])) (by rw [zr_Ledger_followEnd, if_neg h7]) dd_Ledger_followEnd_12
def zr_Ledger_closeEnd (S : zs_S) (i : Nat) (c : Nat) : Int32 := if zs_st (S 4 i 0 c) = nI 3 then (nI 0) else ((-2))
def zu_Ledger_closeEnd (S : zs_S) (i : Nat) (c : Nat) : zs_S := if zs_st (S 4 i 0 c) = nI 3 then (zs_u (zs_u S 4 i 0 c (nI 2 * (nI 4) + zs_or (S 4 i 0 c))) 5 i 0 c (nI 1)) else (S)
set_option maxHeartbeats 4000000 in
set_option maxRecDepth 100000 in
theorem zc_Ledger_closeEnd (lc : Launch) (G : zw_G) (b0 : Nat) (S : zs_S) (i : Nat) (c : Nat) (hi : i < 2) (hc : c < 3) : zw_M lc ym_Ledger_closeEnd bm_Ledger_closeEnd 2 (some .int) { frames := 3, cells := 0, slots := 0, locals := 64 } G b0 176 (zp_p G b0 S) [.ref (b0 + zp_o 2 i 0), .int (nI c)] (zw_Qi G b0 176 (zp_p G b0 (zu_Ledger_closeEnd S i c)) (zr_Ledger_closeEnd S i c)) := by
  refine zw_of (by decide) (Nat.le_of_ble_eq_true rfl) ?_
  intro p e s m below meth cx ls F hr hlk hE hP hS hl
  have hl : lv_has ls 2 [(0, .ref (b0 + zp_o 2 i 0)), (1, .int (nI c))] := hl
  refine lv_aload_n F.1 F.2.1 dd_Ledger_closeEnd_0 rfl (lv_at hl 0 rfl) ?_
  refine lv_iload_n F.1 F.2.1 dd_Ledger_closeEnd_1 rfl (lv_at hl 1 rfl) ?_
  refine zw_goi (zw_rV F hE hP (zc_Ledger_stateOf lc G b0 S i c (by first | omega | assumption) (by first | omega | assumption)) zk_Ledger_stateOf za_Ledger_stateOf zb_Ledger_stateOf wl_Ledger_96 ⟨rfl, rfl, Nat.le_of_ble_eq_true rfl, Nat.le_of_ble_eq_true rfl⟩ (zc_recv (t := 2) (i := i) (j := 0) hE hP ⟨by decide, (show i < 2 by omega), (show 0 < 1 by omega)⟩ rfl rfl) hl.1 rfl (Nat.le_of_ble_eq_true rfl) ⟨Nat.zero_le _, Nat.zero_le _⟩ dd_Ledger_closeEnd_2) hS (fun _ h => h) (fun H locs hP _ _ hS => ?_)
  refine lv_iconst (v := nI 3) F.1 F.2.1 dd_Ledger_closeEnd_5 (by decide) ?_
  refine lv_icmp_eq F.1 F.2.1 dd_Ledger_closeEnd_6 (tgt := 12) rfl (fun h6 => ?_) (fun h6 => ?_)
  · refine lv_aload_n F.1 F.2.1 dd_Ledger_closeEnd_12 rfl (lv_at hl 0 rfl) ?_
    refine lv_iload_n F.1 F.2.1 dd_Ledger_closeEnd_13 rfl (lv_at hl 1 rfl) ?_
    refine lv_iconst (v := nI 4) F.1 F.2.1 dd_Ledger_closeEnd_14 (by decide) ?_
    refine zw_gov (zw_rV F hE hP (zc_Ledger_moveEnd lc G b0 S i c (nI 4) (by first | omega | assumption) (by first | omega | assumption)) zk_Ledger_moveEnd za_Ledger_moveEnd zb_Ledger_moveEnd wl_Ledger_111 ⟨rfl, rfl, Nat.le_of_ble_eq_true rfl, Nat.le_of_ble_eq_true rfl⟩ (zc_recv (t := 2) (i := i) (j := 0) hE hP ⟨by decide, (show i < 2 by omega), (show 0 < 1 by omega)⟩ rfl rfl) hl.1 rfl (Nat.le_of_ble_eq_true rfl) ⟨Nat.zero_le _, Nat.zero_le _⟩ dd_Ledger_closeEnd_15) hS (fun _ h => h) (fun H locs hP _ _ hS => ?_)
    refine lv_iconst (v := nI 0) F.1 F.2.1 dd_Ledger_closeEnd_18 (by decide) ?_
    exact zw_iret F hr hlk hP hS (congrArg (zp_p G b0) (by rw [zu_Ledger_closeEnd, if_pos h6])) (by rw [zr_Ledger_closeEnd, if_pos h6]) dd_Ledger_closeEnd_19
  · refine lv_bipush (v := (-2)) F.1 F.2.1 dd_Ledger_closeEnd_9 (by decide) ?_
    exact zw_iret F hr hlk hP hS (congrArg (zp_p G b0) (by rw [zu_Ledger_closeEnd, if_neg h6])) (by rw [zr_Ledger_closeEnd, if_neg h6]) dd_Ledger_closeEnd_11
def zr_Ledger_sendPacket (S : zs_S) (i : Nat) (c : Nat) (w : Nat) (k : Nat) (a : Int32) (x : Int32) : Int32 := if zs_st (S 4 i 0 c) = nI 3 then (if 12 ≤ zs_n (S 18 i c 0) then ((-7)) else (if a ≤ S 12 i (w / 4) k then (nI ((zs_n (S 18 i c 0)) + 1)) else ((-7)))) else ((-2))
def zu_Ledger_sendPacket (S : zs_S) (i : Nat) (c : Nat) (w : Nat) (k : Nat) (a : Int32) (x : Int32) : zs_S := if zs_st (S 4 i 0 c) = nI 3 then (if 12 ≤ zs_n (S 18 i c 0) then (S) else (if a ≤ S 12 i (w / 4) k then (zs_u (zs_u (zs_u (zs_u (zs_u (zs_u (zs_u (zs_u (zs_u (zs_u (zs_u S 20 i (12 * c + (zs_n (S 18 i c 0))) 0 (nI k)) 20 i (12 * c + (zs_n (S 18 i c 0))) 1 a) 20 i (12 * c + (zs_n (S 18 i c 0))) 2 (nI (w / 4))) 20 i (12 * c + (zs_n (S 18 i c 0))) 3 (nI (w % 4))) 20 i (12 * c + (zs_n (S 18 i c 0))) 4 ((S 8 i 0 0) + x)) 20 i (12 * c + (zs_n (S 18 i c 0))) 5 (zs_bb (S 16 i 0) (S 15 i 0) k c)) 18 i c 0 (nI ((zs_n (S 18 i c 0)) + 1))) 12 i (w / 4) k (S 12 i (w / 4) k - a)) 14 i c k (if (zs_bb (S 16 i 0) (S 15 i 0) k c) ≤ 0 then S 14 i c k + a else S 14 i c k)) 4 i 0 (6 + 12 * c + (zs_n (S 18 i c 0))) (zs_print ((zs_u (zs_u (zs_u (zs_u (zs_u (zs_u (zs_u (zs_u (zs_u S 20 i (12 * c + (zs_n (S 18 i c 0))) 0 (nI k)) 20 i (12 * c + (zs_n (S 18 i c 0))) 1 a) 20 i (12 * c + (zs_n (S 18 i c 0))) 2 (nI (w / 4))) 20 i (12 * c + (zs_n (S 18 i c 0))) 3 (nI (w % 4))) 20 i (12 * c + (zs_n (S 18 i c 0))) 4 ((S 8 i 0 0) + x)) 20 i (12 * c + (zs_n (S 18 i c 0))) 5 (zs_bb (S 16 i 0) (S 15 i 0) k c)) 18 i c 0 (nI ((zs_n (S 18 i c 0)) + 1))) 12 i (w / 4) k (S 12 i (w / 4) k - a)) 14 i c k (if (zs_bb (S 16 i 0) (S 15 i 0) k c) ≤ 0 then S 14 i c k + a else S 14 i c k)) 20 i (12 * c + (zs_n (S 18 i c 0)))) (nI 0))) 5 i 0 (6 + 12 * c + (zs_n (S 18 i c 0))) (nI 1)) else (S))) else (S)
set_option maxHeartbeats 4000000 in
set_option maxRecDepth 100000 in
theorem zc_Ledger_sendPacket (lc : Launch) (G : zw_G) (b0 : Nat) (S : zs_S) (i : Nat) (c : Nat) (w : Nat) (k : Nat) (a : Int32) (x : Int32) (hi : i < 2) (hc : c < 3) (hw : w < 16) (hk : k < 6) (hn : S 18 i c 0 = nI (zs_n (S 18 i c 0))) (hn2 : zs_n (S 18 i c 0) ≤ 12) : zw_M lc ym_Ledger_sendPacket bm_Ledger_sendPacket 9 (some .int) { frames := 2, cells := 0, slots := 0, locals := 44 } G b0 176 (zp_p G b0 S) [.ref (b0 + zp_o 2 i 0), .int (nI c), .int (nI w), .int (nI k), .int a, .int x] (zw_Qi G b0 176 (zp_p G b0 (zu_Ledger_sendPacket S i c w k a x)) (zr_Ledger_sendPacket S i c w k a x)) := by
  refine zw_of (by decide) (Nat.le_of_ble_eq_true rfl) ?_
  intro p e s m below meth cx ls F hr hlk hE hP hS hl
  have hl : lv_has ls 9 [(0, .ref (b0 + zp_o 2 i 0)), (1, .int (nI c)), (2, .int (nI w)), (3, .int (nI k)), (4, .int a), (5, .int x)] := hl
  refine lv_aload_n F.1 F.2.1 dd_Ledger_sendPacket_0 rfl (lv_at hl 0 rfl) ?_
  refine lv_iload_n F.1 F.2.1 dd_Ledger_sendPacket_1 rfl (lv_at hl 1 rfl) ?_
  refine zw_goi (zw_rV F hE hP (zc_Ledger_stateOf lc G b0 S i c (by first | omega | assumption) (by first | omega | assumption)) zk_Ledger_stateOf za_Ledger_stateOf zb_Ledger_stateOf wl_Ledger_96 ⟨rfl, rfl, Nat.le_of_ble_eq_true rfl, Nat.le_of_ble_eq_true rfl⟩ (zc_recv (t := 2) (i := i) (j := 0) hE hP ⟨by decide, (show i < 2 by omega), (show 0 < 1 by omega)⟩ rfl rfl) hl.1 rfl (Nat.le_of_ble_eq_true rfl) ⟨Nat.zero_le _, Nat.zero_le _⟩ dd_Ledger_sendPacket_2) hS (fun _ h => h) (fun H locs hP _ _ hS => ?_)
  refine lv_iconst (v := nI 3) F.1 F.2.1 dd_Ledger_sendPacket_5 (by decide) ?_
  refine lv_icmp_eq F.1 F.2.1 dd_Ledger_sendPacket_6 (tgt := 12) rfl (fun h6 => ?_) (fun h6 => ?_)
  · refine lv_aload_n F.1 F.2.1 dd_Ledger_sendPacket_12 rfl (lv_at hl 0 rfl) ?_
    refine zc_gF (t := 2) (i := i) (j := 0) F hE hP ⟨by decide, (show i < 2 by omega), (show 0 < 1 by omega)⟩ rfl rfl zi_Ledger 5 (by decide) rfl wf_Ledger_42 rfl dd_Ledger_sendPacket_13 ?_
    refine lv_iload_n F.1 F.2.1 dd_Ledger_sendPacket_16 rfl (lv_at hl 1 rfl) ?_
    refine zc_aald (t := 17) (i := i) (j := 0) (k := c) (N := 3) (z := 4) (a := (b0 + zp_o 18 i c)) F hE hP ⟨by decide, (show i < 2 by omega), (show 0 < 1 by omega)⟩ rfl rfl rfl (by omega) (by decide) rfl dd_Ledger_sendPacket_17 ?_
    refine lv_astore F.1 F.2.1 dd_Ledger_sendPacket_18 hl (by decide) (lv' := [(6, .ref (b0 + zp_o 18 i c)), (0, .ref (b0 + zp_o 2 i 0)), (1, .int (nI c)), (2, .int (nI w)), (3, .int (nI k)), (4, .int a), (5, .int x)]) rfl (fun ls hl => ?_)
    refine lv_iload_n F.1 F.2.1 dd_Ledger_sendPacket_20 rfl (lv_at hl 3 rfl) ?_
    refine lv_iconst (v := nI 4) F.1 F.2.1 dd_Ledger_sendPacket_21 (by decide) ?_
    refine zn_idiv F dd_Ledger_sendPacket_22 (by omega) (by decide) (by decide) ?_
    refine lv_istore F.1 F.2.1 dd_Ledger_sendPacket_23 hl (by decide) (lv' := [(7, .int (nI (w / 4))), (6, .ref (b0 + zp_o 18 i c)), (0, .ref (b0 + zp_o 2 i 0)), (1, .int (nI c)), (2, .int (nI w)), (3, .int (nI k)), (4, .int a), (5, .int x)]) rfl (fun ls hl => ?_)
    refine lv_aload F.1 F.2.1 dd_Ledger_sendPacket_25 (lv_at hl 1 rfl) ?_
    refine zc_gN (t := 18) (i := i) (j := c) F hE hP ⟨by decide, (show i < 2 by omega), (show c < 3 by omega)⟩ rfl rfl zi_End 1 (by decide) rfl wf_Ledger_114 rfl dd_Ledger_sendPacket_27 ?_
    refine zn_top (y := nI (zs_n (S 18 i c 0))) (hn) ?_
    refine lv_bipush (v := nI 12) F.1 F.2.1 dd_Ledger_sendPacket_30 (by decide) ?_
    refine zn_cge F dd_Ledger_sendPacket_32 (tgt := 52) rfl (by omega) (by omega) (fun h32 => ?_) (fun h32 => ?_)
    · refine lv_bipush (v := (-7)) F.1 F.2.1 dd_Ledger_sendPacket_52 (by decide) ?_
      exact zw_iret F hr hlk hP hS (congrArg (zp_p G b0) (by rw [zu_Ledger_sendPacket, if_pos h6, if_pos h32])) (by rw [zr_Ledger_sendPacket, if_pos h6, if_pos h32]) dd_Ledger_sendPacket_54
    · refine lv_aload_n F.1 F.2.1 dd_Ledger_sendPacket_35 rfl (lv_at hl 2 rfl) ?_
      refine zc_gF (t := 2) (i := i) (j := 0) F hE hP ⟨by decide, (show i < 2 by omega), (show 0 < 1 by omega)⟩ rfl rfl zi_Ledger 4 (by decide) rfl wf_Ledger_36 rfl dd_Ledger_sendPacket_36 ?_
      refine zc_gN (t := 10) (i := i) (j := 0) F hE hP ⟨by decide, (show i < 2 by omega), (show 0 < 1 by omega)⟩ rfl rfl zi_Bank 0 (by decide) rfl wf_Ledger_117 rfl dd_Ledger_sendPacket_39 ?_
      refine lv_iload F.1 F.2.1 dd_Ledger_sendPacket_42 (lv_at hl 0 rfl) ?_
      refine zc_aald (t := 11) (i := i) (j := 0) (k := w / 4) (N := 4) (z := 6) (a := (b0 + zp_o 12 i (w / 4))) F hE hP ⟨by decide, (show i < 2 by omega), (show 0 < 1 by omega)⟩ rfl rfl rfl (by omega) (by decide) rfl dd_Ledger_sendPacket_44 ?_
      refine lv_iload_n F.1 F.2.1 dd_Ledger_sendPacket_45 rfl (lv_at hl 5 rfl) ?_
      refine zc_iald (t := 12) (i := i) (j := w / 4) (k := k) (N := 6) F hE hP ⟨by decide, (show i < 2 by omega), (show w / 4 < 4 by omega)⟩ (fun _ => rfl) (by omega) (by decide) dd_Ledger_sendPacket_46 ?_
      refine lv_iload F.1 F.2.1 dd_Ledger_sendPacket_47 (lv_at hl 6 rfl) ?_
      refine lv_icmp_ge F.1 F.2.1 dd_Ledger_sendPacket_49 (tgt := 55) rfl (fun h49 => ?_) (fun h49 => ?_)
      · refine lv_aload F.1 F.2.1 dd_Ledger_sendPacket_55 (lv_at hl 1 rfl) ?_
        refine zc_gN (t := 18) (i := i) (j := c) F hE hP ⟨by decide, (show i < 2 by omega), (show c < 3 by omega)⟩ rfl rfl zi_End 0 (by decide) rfl wf_Ledger_121 rfl dd_Ledger_sendPacket_57 ?_
        refine lv_aload F.1 F.2.1 dd_Ledger_sendPacket_60 (lv_at hl 1 rfl) ?_
        refine zc_gN (t := 18) (i := i) (j := c) F hE hP ⟨by decide, (show i < 2 by omega), (show c < 3 by omega)⟩ rfl rfl zi_End 1 (by decide) rfl wf_Ledger_114 rfl dd_Ledger_sendPacket_62 ?_
        refine zn_top (y := nI (zs_n (S 18 i c 0))) (hn) ?_
        refine zc_aald (t := 19) (i := i) (j := c) (k := zs_n (S 18 i c 0)) (N := 12) (z := 5) (a := (b0 + zp_o 20 i (12 * c + (zs_n (S 18 i c 0))))) F hE hP ⟨by decide, (show i < 2 by omega), (show c < 3 by omega)⟩ rfl rfl rfl (by omega) (by decide) rfl dd_Ledger_sendPacket_65 ?_
        refine lv_astore F.1 F.2.1 dd_Ledger_sendPacket_66 hl (by decide) (lv' := [(8, .ref (b0 + zp_o 20 i (12 * c + (zs_n (S 18 i c 0))))), (7, .int (nI (w / 4))), (6, .ref (b0 + zp_o 18 i c)), (0, .ref (b0 + zp_o 2 i 0)), (1, .int (nI c)), (2, .int (nI w)), (3, .int (nI k)), (4, .int a), (5, .int x)]) rfl (fun ls hl => ?_)
        refine lv_aload F.1 F.2.1 dd_Ledger_sendPacket_68 (lv_at hl 0 rfl) ?_
        refine lv_iload_n F.1 F.2.1 dd_Ledger_sendPacket_70 rfl (lv_at hl 6 rfl) ?_
        refine zc_pN (t := 20) (i := i) (j := 12 * c + (zs_n (S 18 i c 0))) (kf := 0) F hE hP hS (fun _ h => h) ⟨by decide, (show i < 2 by omega), (show 12 * c + (zs_n (S 18 i c 0)) < 36 by omega)⟩ rfl rfl zi_Packet zy_Packet zj_Packet zl_Packet 0 (by decide) rfl rfl wf_Ledger_125 (by decide +kernel) (Nat.le_of_ble_eq_true rfl) rfl dd_Ledger_sendPacket_71 (fun H locs hP hS => ?_)
        refine lv_aload F.1 F.2.1 dd_Ledger_sendPacket_74 (lv_at hl 0 rfl) ?_
        refine lv_iload F.1 F.2.1 dd_Ledger_sendPacket_76 (lv_at hl 7 rfl) ?_
        refine zc_pN (t := 20) (i := i) (j := 12 * c + (zs_n (S 18 i c 0))) (kf := 1) F hE hP hS (fun _ h => h) ⟨by decide, (show i < 2 by omega), (show 12 * c + (zs_n (S 18 i c 0)) < 36 by omega)⟩ rfl rfl zi_Packet zy_Packet zj_Packet zl_Packet 1 (by decide) rfl rfl wf_Ledger_130 (by decide +kernel) (Nat.le_of_ble_eq_true rfl) rfl dd_Ledger_sendPacket_78 (fun H locs hP hS => ?_)
        refine lv_aload F.1 F.2.1 dd_Ledger_sendPacket_81 (lv_at hl 0 rfl) ?_
        refine lv_iload F.1 F.2.1 dd_Ledger_sendPacket_83 (lv_at hl 1 rfl) ?_
        refine zc_pN (t := 20) (i := i) (j := 12 * c + (zs_n (S 18 i c 0))) (kf := 2) F hE hP hS (fun _ h => h) ⟨by decide, (show i < 2 by omega), (show 12 * c + (zs_n (S 18 i c 0)) < 36 by omega)⟩ rfl rfl zi_Packet zy_Packet zj_Packet zl_Packet 2 (by decide) rfl rfl wf_Ledger_133 (by decide +kernel) (Nat.le_of_ble_eq_true rfl) rfl dd_Ledger_sendPacket_85 (fun H locs hP hS => ?_)
        refine lv_aload F.1 F.2.1 dd_Ledger_sendPacket_88 (lv_at hl 0 rfl) ?_
        refine lv_iload_n F.1 F.2.1 dd_Ledger_sendPacket_90 rfl (lv_at hl 5 rfl) ?_
        refine lv_iconst (v := nI 4) F.1 F.2.1 dd_Ledger_sendPacket_91 (by decide) ?_
        refine zn_irem F dd_Ledger_sendPacket_92 (by omega) (by decide) (by decide) ?_
        refine zc_pN (t := 20) (i := i) (j := 12 * c + (zs_n (S 18 i c 0))) (kf := 3) F hE hP hS (fun _ h => h) ⟨by decide, (show i < 2 by omega), (show 12 * c + (zs_n (S 18 i c 0)) < 36 by omega)⟩ rfl rfl zi_Packet zy_Packet zj_Packet zl_Packet 3 (by decide) rfl rfl wf_Ledger_136 (by decide +kernel) (Nat.le_of_ble_eq_true rfl) rfl dd_Ledger_sendPacket_93 (fun H locs hP hS => ?_)
        refine lv_aload F.1 F.2.1 dd_Ledger_sendPacket_96 (lv_at hl 0 rfl) ?_
        refine lv_aload_n F.1 F.2.1 dd_Ledger_sendPacket_98 rfl (lv_at hl 3 rfl) ?_
        refine zc_gF (t := 2) (i := i) (j := 0) F hE hP ⟨by decide, (show i < 2 by omega), (show 0 < 1 by omega)⟩ rfl rfl zi_Ledger 3 (by decide) rfl wf_Ledger_29 rfl dd_Ledger_sendPacket_99 ?_
        refine zc_gN (t := 8) (i := i) (j := 0) F hE hP ⟨by decide, (show i < 2 by omega), (show 0 < 1 by omega)⟩ rfl rfl zi_Client 1 (by decide) rfl wf_Ledger_139 rfl dd_Ledger_sendPacket_102 ?_
        refine zn_top (y := S 8 i 0 0) (by rw [zs_ut (by decide), zs_ut (by decide), zs_ut (by decide), zs_ut (by decide)]) ?_
        refine lv_iload F.1 F.2.1 dd_Ledger_sendPacket_105 (lv_at hl 8 rfl) ?_
        refine lv_iadd F.1 F.2.1 dd_Ledger_sendPacket_107 ?_
        refine zc_pN (t := 20) (i := i) (j := 12 * c + (zs_n (S 18 i c 0))) (kf := 4) F hE hP hS (fun _ h => h) ⟨by decide, (show i < 2 by omega), (show 12 * c + (zs_n (S 18 i c 0)) < 36 by omega)⟩ rfl rfl zi_Packet zy_Packet zj_Packet zl_Packet 4 (by decide) rfl rfl wf_Ledger_142 (by decide +kernel) (Nat.le_of_ble_eq_true rfl) rfl dd_Ledger_sendPacket_108 (fun H locs hP hS => ?_)
        refine lv_aload F.1 F.2.1 dd_Ledger_sendPacket_111 (lv_at hl 0 rfl) ?_
        refine lv_aload_n F.1 F.2.1 dd_Ledger_sendPacket_113 rfl (lv_at hl 3 rfl) ?_
        refine zc_gF (t := 2) (i := i) (j := 0) F hE hP ⟨by decide, (show i < 2 by omega), (show 0 < 1 by omega)⟩ rfl rfl zi_Ledger 4 (by decide) rfl wf_Ledger_36 rfl dd_Ledger_sendPacket_114 ?_
        refine lv_iload_n F.1 F.2.1 dd_Ledger_sendPacket_117 rfl (lv_at hl 6 rfl) ?_
        refine lv_iload_n F.1 F.2.1 dd_Ledger_sendPacket_118 rfl (lv_at hl 4 rfl) ?_
        refine zw_goi (zw_rV F hE hP (zc_Bank_backBy lc G b0 (zs_u (zs_u (zs_u (zs_u (zs_u S 20 i (12 * c + (zs_n (S 18 i c 0))) 0 (nI k)) 20 i (12 * c + (zs_n (S 18 i c 0))) 1 a) 20 i (12 * c + (zs_n (S 18 i c 0))) 2 (nI (w / 4))) 20 i (12 * c + (zs_n (S 18 i c 0))) 3 (nI (w % 4))) 20 i (12 * c + (zs_n (S 18 i c 0))) 4 ((S 8 i 0 0) + x)) i k c (by first | omega | assumption) (by first | omega | assumption)) zk_Bank_backBy za_Bank_backBy zb_Bank_backBy wl_Ledger_145 ⟨rfl, rfl, Nat.le_of_ble_eq_true rfl, Nat.le_of_ble_eq_true rfl⟩ (zc_recv (t := 10) (i := i) (j := 0) hE hP ⟨by decide, (show i < 2 by omega), (show 0 < 1 by omega)⟩ rfl rfl) hl.1 rfl (Nat.le_of_ble_eq_true rfl) ⟨Nat.zero_le _, Nat.zero_le _⟩ dd_Ledger_sendPacket_119) hS (fun _ h => h) (fun H locs hP _ _ hS => ?_)
        refine zn_top (y := zs_bb (S 16 i 0) (S 15 i 0) k c) (by rw [zs_uother (fun q => absurd q.1 (by decide))]; rw [zs_uother (fun q => absurd q.1 (by decide))]; rw [zs_uother (fun q => absurd q.1 (by decide))]; rw [zs_uother (fun q => absurd q.1 (by decide))]; rw [zs_uother (fun q => absurd q.1 (by decide))]; rw [zs_uother (fun q => absurd q.1 (by decide))]; rw [zs_uother (fun q => absurd q.1 (by decide))]; rw [zs_uother (fun q => absurd q.1 (by decide))]; rw [zs_uother (fun q => absurd q.1 (by decide))]; rw [zs_uother (fun q => absurd q.1 (by decide))]) ?_
        refine zc_pN (t := 20) (i := i) (j := 12 * c + (zs_n (S 18 i c 0))) (kf := 5) F hE hP hS (fun _ h => h) ⟨by decide, (show i < 2 by omega), (show 12 * c + (zs_n (S 18 i c 0)) < 36 by omega)⟩ rfl rfl zi_Packet zy_Packet zj_Packet zl_Packet 5 (by decide) rfl rfl wf_Ledger_148 (by decide +kernel) (Nat.le_of_ble_eq_true rfl) rfl dd_Ledger_sendPacket_122 (fun H locs hP hS => ?_)
        refine lv_aload F.1 F.2.1 dd_Ledger_sendPacket_125 (lv_at hl 2 rfl) ?_
        refine lv_dup F.1 F.2.1 dd_Ledger_sendPacket_127 rfl ?_
        refine zc_gN (t := 18) (i := i) (j := c) F hE hP ⟨by decide, (show i < 2 by omega), (show c < 3 by omega)⟩ rfl rfl zi_End 1 (by decide) rfl wf_Ledger_114 rfl dd_Ledger_sendPacket_128 ?_
        refine zn_top (y := S 18 i c 0) (by rw [zs_ut (by decide), zs_ut (by decide), zs_ut (by decide), zs_ut (by decide), zs_ut (by decide), zs_ut (by decide)]) ?_
        refine zn_top (y := nI (zs_n (S 18 i c 0))) (hn) ?_
        refine lv_iconst (v := nI 1) F.1 F.2.1 dd_Ledger_sendPacket_131 (by decide) ?_
        refine zn_iadd F dd_Ledger_sendPacket_132 ?_
        refine zc_pN (t := 18) (i := i) (j := c) (kf := 0) F hE hP hS (fun _ h => h) ⟨by decide, (show i < 2 by omega), (show c < 3 by omega)⟩ rfl rfl zi_End zy_End zj_End zl_End 1 (by decide) rfl rfl wf_Ledger_114 (by decide +kernel) (Nat.le_of_ble_eq_true rfl) rfl dd_Ledger_sendPacket_133 (fun H locs hP hS => ?_)
        refine lv_aload_n F.1 F.2.1 dd_Ledger_sendPacket_136 rfl (lv_at hl 3 rfl) ?_
        refine zc_gF (t := 2) (i := i) (j := 0) F hE hP ⟨by decide, (show i < 2 by omega), (show 0 < 1 by omega)⟩ rfl rfl zi_Ledger 4 (by decide) rfl wf_Ledger_36 rfl dd_Ledger_sendPacket_137 ?_
        refine lv_aload F.1 F.2.1 dd_Ledger_sendPacket_140 (lv_at hl 0 rfl) ?_
        refine lv_iload_n F.1 F.2.1 dd_Ledger_sendPacket_142 rfl (lv_at hl 4 rfl) ?_
        refine zw_gov (zw_rV F hE hP (zc_Bank_charge lc G b0 (zs_u (zs_u (zs_u (zs_u (zs_u (zs_u (zs_u S 20 i (12 * c + (zs_n (S 18 i c 0))) 0 (nI k)) 20 i (12 * c + (zs_n (S 18 i c 0))) 1 a) 20 i (12 * c + (zs_n (S 18 i c 0))) 2 (nI (w / 4))) 20 i (12 * c + (zs_n (S 18 i c 0))) 3 (nI (w % 4))) 20 i (12 * c + (zs_n (S 18 i c 0))) 4 ((S 8 i 0 0) + x)) 20 i (12 * c + (zs_n (S 18 i c 0))) 5 (zs_bb (S 16 i 0) (S 15 i 0) k c)) 18 i c 0 (nI ((zs_n (S 18 i c 0)) + 1))) i (12 * c + (zs_n (S 18 i c 0))) c (w / 4) k (by first | omega | assumption) (by first | omega | assumption) (by first | omega | assumption) (by first | omega | assumption) (by first | omega | assumption) (by first | assumption | (rw [zs_ut (by decide)]; rw [zs_uk (by decide)]; rw [zs_uk (by decide)]; rw [zs_uk (by decide)]; rw [zs_us]; first | done | assumption | rfl)) (by first | assumption | (rw [zs_ut (by decide)]; rw [zs_uk (by decide)]; rw [zs_uk (by decide)]; rw [zs_uk (by decide)]; rw [zs_uk (by decide)]; rw [zs_uk (by decide)]; rw [zs_us]; first | done | assumption | rfl))) zk_Bank_charge za_Bank_charge zb_Bank_charge wl_Ledger_151 ⟨rfl, rfl, Nat.le_of_ble_eq_true rfl, Nat.le_of_ble_eq_true rfl⟩ (zc_recv (t := 10) (i := i) (j := 0) hE hP ⟨by decide, (show i < 2 by omega), (show 0 < 1 by omega)⟩ rfl rfl) hl.1 rfl (Nat.le_of_ble_eq_true rfl) ⟨Nat.zero_le _, Nat.zero_le _⟩ dd_Ledger_sendPacket_143) hS (fun _ h => h) (fun H locs hP _ _ hS => ?_)
        rw [zs_ut (by decide)] at hP
        rw [zs_ut (by decide)] at hP
        rw [zs_ut (by decide)] at hP
        rw [zs_ut (by decide)] at hP
        rw [zs_ut (by decide)] at hP
        rw [zs_ut (by decide)] at hP
        rw [zs_ut (by decide)] at hP
        rw [zs_ut (by decide)] at hP
        rw [zs_uk (by decide)] at hP
        rw [zs_uk (by decide)] at hP
        rw [zs_uk (by decide)] at hP
        rw [zs_uk (by decide)] at hP
        rw [zs_us] at hP
        rw [zs_ut (by decide)] at hP
        rw [zs_us] at hP
        rw [zs_ut (by decide)] at hP
        rw [zs_ut (by decide)] at hP
        rw [zs_ut (by decide)] at hP
        rw [zs_ut (by decide)] at hP
        rw [zs_ut (by decide)] at hP
        rw [zs_ut (by decide)] at hP
        rw [zs_ut (by decide)] at hP
        refine lv_aload_n F.1 F.2.1 dd_Ledger_sendPacket_146 rfl (lv_at hl 3 rfl) ?_
        refine zc_gF (t := 2) (i := i) (j := 0) F hE hP ⟨by decide, (show i < 2 by omega), (show 0 < 1 by omega)⟩ rfl rfl zi_Ledger 0 (by decide) rfl wf_Ledger_12 rfl dd_Ledger_sendPacket_147 ?_
        refine lv_iload_n F.1 F.2.1 dd_Ledger_sendPacket_150 rfl (lv_at hl 4 rfl) ?_
        refine lv_aload F.1 F.2.1 dd_Ledger_sendPacket_151 (lv_at hl 2 rfl) ?_
        refine zc_gN (t := 18) (i := i) (j := c) F hE hP ⟨by decide, (show i < 2 by omega), (show c < 3 by omega)⟩ rfl rfl zi_End 1 (by decide) rfl wf_Ledger_114 rfl dd_Ledger_sendPacket_153 ?_
        refine zn_top (y := nI ((zs_n (S 18 i c 0)) + 1)) (by rw [zs_ut (by decide), zs_ut (by decide), zs_us]) ?_
        refine zw_goi (zw_rS F hE hP (zc_Store_printSlot lc G b0 (zs_u (zs_u (zs_u (zs_u (zs_u (zs_u (zs_u (zs_u (zs_u S 20 i (12 * c + (zs_n (S 18 i c 0))) 0 (nI k)) 20 i (12 * c + (zs_n (S 18 i c 0))) 1 a) 20 i (12 * c + (zs_n (S 18 i c 0))) 2 (nI (w / 4))) 20 i (12 * c + (zs_n (S 18 i c 0))) 3 (nI (w % 4))) 20 i (12 * c + (zs_n (S 18 i c 0))) 4 ((S 8 i 0 0) + x)) 20 i (12 * c + (zs_n (S 18 i c 0))) 5 (zs_bb (S 16 i 0) (S 15 i 0) k c)) 18 i c 0 (nI ((zs_n (S 18 i c 0)) + 1))) 12 i (w / 4) k (S 12 i (w / 4) k - a)) 14 i c k (if (zs_bb (S 16 i 0) (S 15 i 0) k c) ≤ 0 then S 14 i c k + a else S 14 i c k)) c (zs_n (S 18 i c 0))) zk_Store_printSlot za_Store_printSlot wl_Ledger_155 ⟨rfl, rfl, Nat.le_of_ble_eq_true rfl, Nat.le_of_ble_eq_true rfl⟩ hl.1 rfl (Nat.le_of_ble_eq_true rfl) ⟨Nat.zero_le _, Nat.zero_le _⟩ dd_Ledger_sendPacket_156) hS (fun _ h => h) (fun H locs hP _ _ hS => ?_)
        refine lv_aload F.1 F.2.1 dd_Ledger_sendPacket_159 (lv_at hl 0 rfl) ?_
        refine lv_iconst (v := nI 0) F.1 F.2.1 dd_Ledger_sendPacket_161 (by decide) ?_
        refine zw_goi (zw_rV F hE hP (zc_Packet_printWith lc G b0 (zs_u (zs_u (zs_u (zs_u (zs_u (zs_u (zs_u (zs_u (zs_u S 20 i (12 * c + (zs_n (S 18 i c 0))) 0 (nI k)) 20 i (12 * c + (zs_n (S 18 i c 0))) 1 a) 20 i (12 * c + (zs_n (S 18 i c 0))) 2 (nI (w / 4))) 20 i (12 * c + (zs_n (S 18 i c 0))) 3 (nI (w % 4))) 20 i (12 * c + (zs_n (S 18 i c 0))) 4 ((S 8 i 0 0) + x)) 20 i (12 * c + (zs_n (S 18 i c 0))) 5 (zs_bb (S 16 i 0) (S 15 i 0) k c)) 18 i c 0 (nI ((zs_n (S 18 i c 0)) + 1))) 12 i (w / 4) k (S 12 i (w / 4) k - a)) 14 i c k (if (zs_bb (S 16 i 0) (S 15 i 0) k c) ≤ 0 then S 14 i c k + a else S 14 i c k)) i (12 * c + (zs_n (S 18 i c 0))) (nI 0) (by first | omega | assumption) (by first | omega | assumption)) zk_Packet_printWith za_Packet_printWith zb_Packet_printWith wl_Ledger_158 ⟨rfl, rfl, Nat.le_of_ble_eq_true rfl, Nat.le_of_ble_eq_true rfl⟩ (zc_recv (t := 20) (i := i) (j := 12 * c + (zs_n (S 18 i c 0))) hE hP ⟨by decide, (show i < 2 by omega), (show 12 * c + (zs_n (S 18 i c 0)) < 36 by omega)⟩ rfl rfl) hl.1 rfl (Nat.le_of_ble_eq_true rfl) ⟨Nat.zero_le _, Nat.zero_le _⟩ dd_Ledger_sendPacket_162) hS (fun _ h => h) (fun H locs hP _ _ hS => ?_)
        refine zw_gov (zw_rV F hE hP (zc_Store_put lc G b0 (zs_u (zs_u (zs_u (zs_u (zs_u (zs_u (zs_u (zs_u (zs_u S 20 i (12 * c + (zs_n (S 18 i c 0))) 0 (nI k)) 20 i (12 * c + (zs_n (S 18 i c 0))) 1 a) 20 i (12 * c + (zs_n (S 18 i c 0))) 2 (nI (w / 4))) 20 i (12 * c + (zs_n (S 18 i c 0))) 3 (nI (w % 4))) 20 i (12 * c + (zs_n (S 18 i c 0))) 4 ((S 8 i 0 0) + x)) 20 i (12 * c + (zs_n (S 18 i c 0))) 5 (zs_bb (S 16 i 0) (S 15 i 0) k c)) 18 i c 0 (nI ((zs_n (S 18 i c 0)) + 1))) 12 i (w / 4) k (S 12 i (w / 4) k - a)) 14 i c k (if (zs_bb (S 16 i 0) (S 15 i 0) k c) ≤ 0 then S 14 i c k + a else S 14 i c k)) i 0 (6 + 12 * c + (zs_n (S 18 i c 0))) (zs_print ((zs_u (zs_u (zs_u (zs_u (zs_u (zs_u (zs_u (zs_u (zs_u S 20 i (12 * c + (zs_n (S 18 i c 0))) 0 (nI k)) 20 i (12 * c + (zs_n (S 18 i c 0))) 1 a) 20 i (12 * c + (zs_n (S 18 i c 0))) 2 (nI (w / 4))) 20 i (12 * c + (zs_n (S 18 i c 0))) 3 (nI (w % 4))) 20 i (12 * c + (zs_n (S 18 i c 0))) 4 ((S 8 i 0 0) + x)) 20 i (12 * c + (zs_n (S 18 i c 0))) 5 (zs_bb (S 16 i 0) (S 15 i 0) k c)) 18 i c 0 (nI ((zs_n (S 18 i c 0)) + 1))) 12 i (w / 4) k (S 12 i (w / 4) k - a)) 14 i c k (if (zs_bb (S 16 i 0) (S 15 i 0) k c) ≤ 0 then S 14 i c k + a else S 14 i c k)) 20 i (12 * c + (zs_n (S 18 i c 0)))) (nI 0)) (by first | omega | assumption) (by first | omega | assumption) (by first | omega | assumption)) zk_Store_put za_Store_put zb_Store_put wl_Ledger_103 ⟨rfl, rfl, Nat.le_of_ble_eq_true rfl, Nat.le_of_ble_eq_true rfl⟩ (zc_recv (t := 3) (i := i) (j := 0) hE hP ⟨by decide, (show i < 2 by omega), (show 0 < 9 by omega)⟩ rfl rfl) hl.1 rfl (Nat.le_of_ble_eq_true rfl) ⟨Nat.zero_le _, Nat.zero_le _⟩ dd_Ledger_sendPacket_165) hS (fun _ h => h) (fun H locs hP _ _ hS => ?_)
        refine lv_aload F.1 F.2.1 dd_Ledger_sendPacket_168 (lv_at hl 2 rfl) ?_
        refine zc_gN (t := 18) (i := i) (j := c) F hE hP ⟨by decide, (show i < 2 by omega), (show c < 3 by omega)⟩ rfl rfl zi_End 1 (by decide) rfl wf_Ledger_114 rfl dd_Ledger_sendPacket_170 ?_
        refine zn_top (y := nI ((zs_n (S 18 i c 0)) + 1)) (by rw [zs_ut (by decide), zs_ut (by decide), zs_ut (by decide), zs_ut (by decide), zs_us]) ?_
        exact zw_iret F hr hlk hP hS (congrArg (zp_p G b0) (by rw [zu_Ledger_sendPacket, if_pos h6, if_neg h32, if_pos h49])) (by rw [zr_Ledger_sendPacket, if_pos h6, if_neg h32, if_pos h49]) dd_Ledger_sendPacket_173
      · refine lv_bipush (v := (-7)) F.1 F.2.1 dd_Ledger_sendPacket_52 (by decide) ?_
        exact zw_iret F hr hlk hP hS (congrArg (zp_p G b0) (by rw [zu_Ledger_sendPacket, if_pos h6, if_neg h32, if_neg h49])) (by rw [zr_Ledger_sendPacket, if_pos h6, if_neg h32, if_neg h49]) dd_Ledger_sendPacket_54
  · refine lv_bipush (v := (-2)) F.1 F.2.1 dd_Ledger_sendPacket_9 (by decide) ?_
    exact zw_iret F hr hlk hP hS (congrArg (zp_p G b0) (by rw [zu_Ledger_sendPacket, if_neg h6])) (by rw [zr_Ledger_sendPacket, if_neg h6]) dd_Ledger_sendPacket_11
end
section
def zr_Ledger_isReceivable (S : zs_S) (i : Nat) (c : Nat) (j : Nat) : Int32 := if zs_or (S 4 i 0 c) = nI 1 then (if nI (j + 1) = zs_nx (S 4 i 0 (3 + c)) then (nI 1) else (nI 0)) else (if S 5 i 0 (42 + 12 * c + j) = 0 then (nI 1) else (nI 0))
set_option maxHeartbeats 4000000 in
set_option maxRecDepth 100000 in
theorem zc_Ledger_isReceivable (lc : Launch) (G : zw_G) (b0 : Nat) (S : zs_S) (i : Nat) (c : Nat) (j : Nat) (hi : i < 2) (hc : c < 3) (hj : j < 12) (hB : zs_B S) : zw_M lc ym_Ledger_isReceivable bm_Ledger_isReceivable 3 (some .boolean) { frames := 3, cells := 0, slots := 0, locals := 63 } G b0 176 (zp_p G b0 S) [.ref (b0 + zp_o 2 i 0), .int (nI c), .int (nI (j + 1))] (zw_Qi G b0 176 (zp_p G b0 S) (zr_Ledger_isReceivable S i c j)) := by
  refine zw_of (by decide) (Nat.le_of_ble_eq_true rfl) ?_
  intro p e s m below meth cx ls F hr hlk hE hP hS hl
  have hl : lv_has ls 3 [(0, .ref (b0 + zp_o 2 i 0)), (1, .int (nI c)), (2, .int (nI (j + 1)))] := hl
  refine lv_aload_n F.1 F.2.1 dd_Ledger_isReceivable_0 rfl (lv_at hl 0 rfl) ?_
  refine lv_iload_n F.1 F.2.1 dd_Ledger_isReceivable_1 rfl (lv_at hl 1 rfl) ?_
  refine zw_goi (zw_rV F hE hP (zc_Ledger_isOrdered lc G b0 S i c (by first | omega | assumption) (by first | omega | assumption)) zk_Ledger_isOrdered za_Ledger_isOrdered zb_Ledger_isOrdered wl_Ledger_172 ⟨rfl, rfl, Nat.le_of_ble_eq_true rfl, Nat.le_of_ble_eq_true rfl⟩ (zc_recv (t := 2) (i := i) (j := 0) hE hP ⟨by decide, (show i < 2 by omega), (show 0 < 1 by omega)⟩ rfl rfl) hl.1 rfl (Nat.le_of_ble_eq_true rfl) ⟨Nat.zero_le _, Nat.zero_le _⟩ dd_Ledger_isReceivable_2) hS (fun _ h => h) (fun H locs hP _ _ hS => ?_)
  refine zn_beq F dd_Ledger_isReceivable_5 (tgt := 25) rfl (fun h5 => ?_) (fun h5 => ?_)
  · refine lv_aload_n F.1 F.2.1 dd_Ledger_isReceivable_25 rfl (lv_at hl 0 rfl) ?_
    refine zc_gF (t := 2) (i := i) (j := 0) F hE hP ⟨by decide, (show i < 2 by omega), (show 0 < 1 by omega)⟩ rfl rfl zi_Ledger 0 (by decide) rfl wf_Ledger_12 rfl dd_Ledger_isReceivable_26 ?_
    refine lv_iload_n F.1 F.2.1 dd_Ledger_isReceivable_29 rfl (lv_at hl 1 rfl) ?_
    refine lv_iload_n F.1 F.2.1 dd_Ledger_isReceivable_30 rfl (lv_at hl 2 rfl) ?_
    refine zw_goi (zw_rS F hE hP (zc_Store_receiptSlot lc G b0 S c j) zk_Store_receiptSlot za_Store_receiptSlot wl_Ledger_178 ⟨rfl, rfl, Nat.le_of_ble_eq_true rfl, Nat.le_of_ble_eq_true rfl⟩ hl.1 rfl (Nat.le_of_ble_eq_true rfl) ⟨Nat.zero_le _, Nat.zero_le _⟩ dd_Ledger_isReceivable_31) hS (fun _ h => h) (fun H locs hP _ _ hS => ?_)
    refine zw_goi (zw_rV F hE hP (zc_Store_has lc G b0 S i 0 (42 + 12 * c + j) (by first | omega | assumption) (by first | omega | assumption) (by first | omega | assumption) (hB _ _ _)) zk_Store_has za_Store_has zb_Store_has wl_Ledger_89 ⟨rfl, rfl, Nat.le_of_ble_eq_true rfl, Nat.le_of_ble_eq_true rfl⟩ (zc_recv (t := 3) (i := i) (j := 0) hE hP ⟨by decide, (show i < 2 by omega), (show 0 < 9 by omega)⟩ rfl rfl) hl.1 rfl (Nat.le_of_ble_eq_true rfl) ⟨Nat.zero_le _, Nat.zero_le _⟩ dd_Ledger_isReceivable_34) hS (fun _ h => h) (fun H locs hP _ _ hS => ?_)
    refine lv_if_ne F.1 F.2.1 dd_Ledger_isReceivable_37 (tgt := 44) rfl (fun h37 => ?_) (fun h37 => ?_)
    · refine lv_iconst (v := nI 0) F.1 F.2.1 dd_Ledger_isReceivable_44 (by decide) ?_
      exact zw_zret F hr hlk hP hS rfl (by decide) (by rw [zr_Ledger_isReceivable, if_neg h5, if_neg h37]) dd_Ledger_isReceivable_45
    · refine lv_iconst (v := nI 1) F.1 F.2.1 dd_Ledger_isReceivable_40 (by decide) ?_
      refine lv_goto F.1 F.2.1 dd_Ledger_isReceivable_41 (tgt := 45) rfl ?_
      exact zw_zret F hr hlk hP hS rfl (by decide) (by rw [zr_Ledger_isReceivable, if_neg h5, if_pos h37]) dd_Ledger_isReceivable_45
  · refine lv_iload_n F.1 F.2.1 dd_Ledger_isReceivable_8 rfl (lv_at hl 2 rfl) ?_
    refine lv_aload_n F.1 F.2.1 dd_Ledger_isReceivable_9 rfl (lv_at hl 0 rfl) ?_
    refine lv_iload_n F.1 F.2.1 dd_Ledger_isReceivable_10 rfl (lv_at hl 1 rfl) ?_
    refine zw_goi (zw_rV F hE hP (zc_Ledger_nextToReceive lc G b0 S i c (by first | omega | assumption) (by first | omega | assumption)) zk_Ledger_nextToReceive za_Ledger_nextToReceive zb_Ledger_nextToReceive wl_Ledger_175 ⟨rfl, rfl, Nat.le_of_ble_eq_true rfl, Nat.le_of_ble_eq_true rfl⟩ (zc_recv (t := 2) (i := i) (j := 0) hE hP ⟨by decide, (show i < 2 by omega), (show 0 < 1 by omega)⟩ rfl rfl) hl.1 rfl (Nat.le_of_ble_eq_true rfl) ⟨Nat.zero_le _, Nat.zero_le _⟩ dd_Ledger_isReceivable_11) hS (fun _ h => h) (fun H locs hP _ _ hS => ?_)
    refine lv_icmp_ne F.1 F.2.1 dd_Ledger_isReceivable_14 (tgt := 21) rfl (fun h14 => ?_) (fun h14 => ?_)
    · refine lv_iconst (v := nI 0) F.1 F.2.1 dd_Ledger_isReceivable_21 (by decide) ?_
      refine lv_goto F.1 F.2.1 dd_Ledger_isReceivable_22 (tgt := 45) rfl ?_
      exact zw_zret F hr hlk hP hS rfl (by decide) (by rw [zr_Ledger_isReceivable, if_pos h5, if_neg h14]) dd_Ledger_isReceivable_45
    · refine lv_iconst (v := nI 1) F.1 F.2.1 dd_Ledger_isReceivable_17 (by decide) ?_
      refine lv_goto F.1 F.2.1 dd_Ledger_isReceivable_18 (tgt := 45) rfl ?_
      exact zw_zret F hr hlk hP hS rfl (by decide) (by rw [zr_Ledger_isReceivable, if_pos h5, if_pos h14]) dd_Ledger_isReceivable_45
def zu_Ledger_noteReceived (S : zs_S) (i : Nat) (c : Nat) (j : Nat) (a : Int32) : zs_S := if zs_or (S 4 i 0 c) = nI 1 then (zs_u (zs_u (zs_u (zs_u S 4 i 0 (3 + c) (nI ((j + 1) + 1))) 5 i 0 (3 + c) (nI 1)) 4 i 0 (78 + 12 * c + j) a) 5 i 0 (78 + 12 * c + j) (nI 1)) else (zs_u (zs_u (zs_u (zs_u S 4 i 0 (42 + 12 * c + j) (nI 1)) 5 i 0 (42 + 12 * c + j) (nI 1)) 4 i 0 (78 + 12 * c + j) a) 5 i 0 (78 + 12 * c + j) (nI 1))
set_option maxHeartbeats 4000000 in
set_option maxRecDepth 100000 in
theorem zc_Ledger_noteReceived (lc : Launch) (G : zw_G) (b0 : Nat) (S : zs_S) (i : Nat) (c : Nat) (j : Nat) (a : Int32) (hi : i < 2) (hc : c < 3) (hj : j < 12) : zw_M lc ym_Ledger_noteReceived bm_Ledger_noteReceived 4 none { frames := 3, cells := 0, slots := 0, locals := 63 } G b0 176 (zp_p G b0 S) [.ref (b0 + zp_o 2 i 0), .int (nI c), .int (nI (j + 1)), .int a] (zw_Qv G b0 176 (zp_p G b0 (zu_Ledger_noteReceived S i c j a))) := by
  refine zw_of (by decide) (Nat.le_of_ble_eq_true rfl) ?_
  intro p e s m below meth cx ls F hr hlk hE hP hS hl
  have hl : lv_has ls 4 [(0, .ref (b0 + zp_o 2 i 0)), (1, .int (nI c)), (2, .int (nI (j + 1))), (3, .int a)] := hl
  refine lv_aload_n F.1 F.2.1 dd_Ledger_noteReceived_0 rfl (lv_at hl 0 rfl) ?_
  refine lv_iload_n F.1 F.2.1 dd_Ledger_noteReceived_1 rfl (lv_at hl 1 rfl) ?_
  refine zw_goi (zw_rV F hE hP (zc_Ledger_isOrdered lc G b0 S i c (by first | omega | assumption) (by first | omega | assumption)) zk_Ledger_isOrdered za_Ledger_isOrdered zb_Ledger_isOrdered wl_Ledger_172 ⟨rfl, rfl, Nat.le_of_ble_eq_true rfl, Nat.le_of_ble_eq_true rfl⟩ (zc_recv (t := 2) (i := i) (j := 0) hE hP ⟨by decide, (show i < 2 by omega), (show 0 < 1 by omega)⟩ rfl rfl) hl.1 rfl (Nat.le_of_ble_eq_true rfl) ⟨Nat.zero_le _, Nat.zero_le _⟩ dd_Ledger_noteReceived_2) hS (fun _ h => h) (fun H locs hP _ _ hS => ?_)
  refine zn_beq F dd_Ledger_noteReceived_5 (tgt := 25) rfl (fun h5 => ?_) (fun h5 => ?_)
  · refine lv_aload_n F.1 F.2.1 dd_Ledger_noteReceived_25 rfl (lv_at hl 0 rfl) ?_
    refine zc_gF (t := 2) (i := i) (j := 0) F hE hP ⟨by decide, (show i < 2 by omega), (show 0 < 1 by omega)⟩ rfl rfl zi_Ledger 0 (by decide) rfl wf_Ledger_12 rfl dd_Ledger_noteReceived_26 ?_
    refine lv_iload_n F.1 F.2.1 dd_Ledger_noteReceived_29 rfl (lv_at hl 1 rfl) ?_
    refine lv_iload_n F.1 F.2.1 dd_Ledger_noteReceived_30 rfl (lv_at hl 2 rfl) ?_
    refine zw_goi (zw_rS F hE hP (zc_Store_receiptSlot lc G b0 S c j) zk_Store_receiptSlot za_Store_receiptSlot wl_Ledger_178 ⟨rfl, rfl, Nat.le_of_ble_eq_true rfl, Nat.le_of_ble_eq_true rfl⟩ hl.1 rfl (Nat.le_of_ble_eq_true rfl) ⟨Nat.zero_le _, Nat.zero_le _⟩ dd_Ledger_noteReceived_31) hS (fun _ h => h) (fun H locs hP _ _ hS => ?_)
    refine lv_iconst (v := nI 1) F.1 F.2.1 dd_Ledger_noteReceived_34 (by decide) ?_
    refine zw_gov (zw_rV F hE hP (zc_Store_put lc G b0 S i 0 (42 + 12 * c + j) (nI 1) (by first | omega | assumption) (by first | omega | assumption) (by first | omega | assumption)) zk_Store_put za_Store_put zb_Store_put wl_Ledger_103 ⟨rfl, rfl, Nat.le_of_ble_eq_true rfl, Nat.le_of_ble_eq_true rfl⟩ (zc_recv (t := 3) (i := i) (j := 0) hE hP ⟨by decide, (show i < 2 by omega), (show 0 < 9 by omega)⟩ rfl rfl) hl.1 rfl (Nat.le_of_ble_eq_true rfl) ⟨Nat.zero_le _, Nat.zero_le _⟩ dd_Ledger_noteReceived_35) hS (fun _ h => h) (fun H locs hP _ _ hS => ?_)
    refine lv_aload_n F.1 F.2.1 dd_Ledger_noteReceived_38 rfl (lv_at hl 0 rfl) ?_
    refine zc_gF (t := 2) (i := i) (j := 0) F hE hP ⟨by decide, (show i < 2 by omega), (show 0 < 1 by omega)⟩ rfl rfl zi_Ledger 0 (by decide) rfl wf_Ledger_12 rfl dd_Ledger_noteReceived_39 ?_
    refine lv_iload_n F.1 F.2.1 dd_Ledger_noteReceived_42 rfl (lv_at hl 1 rfl) ?_
    refine lv_iload_n F.1 F.2.1 dd_Ledger_noteReceived_43 rfl (lv_at hl 2 rfl) ?_
    refine zw_goi (zw_rS F hE hP (zc_Store_answerSlot lc G b0 (zs_u (zs_u S 4 i 0 (42 + 12 * c + j) (nI 1)) 5 i 0 (42 + 12 * c + j) (nI 1)) c j) zk_Store_answerSlot za_Store_answerSlot wl_Ledger_181 ⟨rfl, rfl, Nat.le_of_ble_eq_true rfl, Nat.le_of_ble_eq_true rfl⟩ hl.1 rfl (Nat.le_of_ble_eq_true rfl) ⟨Nat.zero_le _, Nat.zero_le _⟩ dd_Ledger_noteReceived_44) hS (fun _ h => h) (fun H locs hP _ _ hS => ?_)
    refine lv_iload_n F.1 F.2.1 dd_Ledger_noteReceived_47 rfl (lv_at hl 3 rfl) ?_
    refine zw_gov (zw_rV F hE hP (zc_Store_put lc G b0 (zs_u (zs_u S 4 i 0 (42 + 12 * c + j) (nI 1)) 5 i 0 (42 + 12 * c + j) (nI 1)) i 0 (78 + 12 * c + j) a (by first | omega | assumption) (by first | omega | assumption) (by first | omega | assumption)) zk_Store_put za_Store_put zb_Store_put wl_Ledger_103 ⟨rfl, rfl, Nat.le_of_ble_eq_true rfl, Nat.le_of_ble_eq_true rfl⟩ (zc_recv (t := 3) (i := i) (j := 0) hE hP ⟨by decide, (show i < 2 by omega), (show 0 < 9 by omega)⟩ rfl rfl) hl.1 rfl (Nat.le_of_ble_eq_true rfl) ⟨Nat.zero_le _, Nat.zero_le _⟩ dd_Ledger_noteReceived_48) hS (fun _ h => h) (fun H locs hP _ _ hS => ?_)
    exact zw_vret F hr hlk hP hS (congrArg (zp_p G b0) (by rw [zu_Ledger_noteReceived, if_neg h5])) dd_Ledger_noteReceived_51
  · refine lv_aload_n F.1 F.2.1 dd_Ledger_noteReceived_8 rfl (lv_at hl 0 rfl) ?_
    refine zc_gF (t := 2) (i := i) (j := 0) F hE hP ⟨by decide, (show i < 2 by omega), (show 0 < 1 by omega)⟩ rfl rfl zi_Ledger 0 (by decide) rfl wf_Ledger_12 rfl dd_Ledger_noteReceived_9 ?_
    refine lv_iload_n F.1 F.2.1 dd_Ledger_noteReceived_12 rfl (lv_at hl 1 rfl) ?_
    refine zw_goi (zw_rS F hE hP (zc_Store_nextSlot lc G b0 S c) zk_Store_nextSlot za_Store_nextSlot wl_Ledger_73 ⟨rfl, rfl, Nat.le_of_ble_eq_true rfl, Nat.le_of_ble_eq_true rfl⟩ hl.1 rfl (Nat.le_of_ble_eq_true rfl) ⟨Nat.zero_le _, Nat.zero_le _⟩ dd_Ledger_noteReceived_13) hS (fun _ h => h) (fun H locs hP _ _ hS => ?_)
    refine lv_iload_n F.1 F.2.1 dd_Ledger_noteReceived_16 rfl (lv_at hl 2 rfl) ?_
    refine lv_iconst (v := nI 1) F.1 F.2.1 dd_Ledger_noteReceived_17 (by decide) ?_
    refine zn_iadd F dd_Ledger_noteReceived_18 ?_
    refine zw_gov (zw_rV F hE hP (zc_Store_put lc G b0 S i 0 (3 + c) (nI ((j + 1) + 1)) (by first | omega | assumption) (by first | omega | assumption) (by first | omega | assumption)) zk_Store_put za_Store_put zb_Store_put wl_Ledger_103 ⟨rfl, rfl, Nat.le_of_ble_eq_true rfl, Nat.le_of_ble_eq_true rfl⟩ (zc_recv (t := 3) (i := i) (j := 0) hE hP ⟨by decide, (show i < 2 by omega), (show 0 < 9 by omega)⟩ rfl rfl) hl.1 rfl (Nat.le_of_ble_eq_true rfl) ⟨Nat.zero_le _, Nat.zero_le _⟩ dd_Ledger_noteReceived_19) hS (fun _ h => h) (fun H locs hP _ _ hS => ?_)
    refine lv_goto F.1 F.2.1 dd_Ledger_noteReceived_22 (tgt := 38) rfl ?_
    refine lv_aload_n F.1 F.2.1 dd_Ledger_noteReceived_38 rfl (lv_at hl 0 rfl) ?_
    refine zc_gF (t := 2) (i := i) (j := 0) F hE hP ⟨by decide, (show i < 2 by omega), (show 0 < 1 by omega)⟩ rfl rfl zi_Ledger 0 (by decide) rfl wf_Ledger_12 rfl dd_Ledger_noteReceived_39 ?_
    refine lv_iload_n F.1 F.2.1 dd_Ledger_noteReceived_42 rfl (lv_at hl 1 rfl) ?_
    refine lv_iload_n F.1 F.2.1 dd_Ledger_noteReceived_43 rfl (lv_at hl 2 rfl) ?_
    refine zw_goi (zw_rS F hE hP (zc_Store_answerSlot lc G b0 (zs_u (zs_u S 4 i 0 (3 + c) (nI ((j + 1) + 1))) 5 i 0 (3 + c) (nI 1)) c j) zk_Store_answerSlot za_Store_answerSlot wl_Ledger_181 ⟨rfl, rfl, Nat.le_of_ble_eq_true rfl, Nat.le_of_ble_eq_true rfl⟩ hl.1 rfl (Nat.le_of_ble_eq_true rfl) ⟨Nat.zero_le _, Nat.zero_le _⟩ dd_Ledger_noteReceived_44) hS (fun _ h => h) (fun H locs hP _ _ hS => ?_)
    refine lv_iload_n F.1 F.2.1 dd_Ledger_noteReceived_47 rfl (lv_at hl 3 rfl) ?_
    refine zw_gov (zw_rV F hE hP (zc_Store_put lc G b0 (zs_u (zs_u S 4 i 0 (3 + c) (nI ((j + 1) + 1))) 5 i 0 (3 + c) (nI 1)) i 0 (78 + 12 * c + j) a (by first | omega | assumption) (by first | omega | assumption) (by first | omega | assumption)) zk_Store_put za_Store_put zb_Store_put wl_Ledger_103 ⟨rfl, rfl, Nat.le_of_ble_eq_true rfl, Nat.le_of_ble_eq_true rfl⟩ (zc_recv (t := 3) (i := i) (j := 0) hE hP ⟨by decide, (show i < 2 by omega), (show 0 < 9 by omega)⟩ rfl rfl) hl.1 rfl (Nat.le_of_ble_eq_true rfl) ⟨Nat.zero_le _, Nat.zero_le _⟩ dd_Ledger_noteReceived_48) hS (fun _ h => h) (fun H locs hP _ _ hS => ?_)
    exact zw_vret F hr hlk hP hS (congrArg (zp_p G b0) (by rw [zu_Ledger_noteReceived, if_pos h5])) dd_Ledger_noteReceived_51
def zu_Ledger_settle (S : zs_S) (i : Nat) (c : Nat) (j : Nat) (x : Int32) : zs_S := if x = nI 1 then (zs_u (zs_u (zs_u S 20 i (12 * c + j) 6 x) 4 i 0 (6 + 12 * c + j) (nI 0)) 5 i 0 (6 + 12 * c + j) (nI 0)) else (zs_u (zs_u (zs_u (zs_u (zs_u S 20 i (12 * c + j) 6 x) 4 i 0 (6 + 12 * c + j) (nI 0)) 5 i 0 (6 + 12 * c + j) (nI 0)) 12 i (zs_n (S 20 i (12 * c + j) 2)) (zs_n (S 20 i (12 * c + j) 0)) (S 12 i (zs_n (S 20 i (12 * c + j) 2)) (zs_n (S 20 i (12 * c + j) 0)) + S 20 i (12 * c + j) 1)) 14 i c (zs_n (S 20 i (12 * c + j) 0)) (if S 20 i (12 * c + j) 5 ≤ 0 then S 14 i c (zs_n (S 20 i (12 * c + j) 0)) - S 20 i (12 * c + j) 1 else S 14 i c (zs_n (S 20 i (12 * c + j) 0))))
set_option maxHeartbeats 4000000 in
set_option maxRecDepth 100000 in
theorem zc_Ledger_settle (lc : Launch) (G : zw_G) (b0 : Nat) (S : zs_S) (i : Nat) (c : Nat) (j : Nat) (x : Int32) (hi : i < 2) (hc : c < 3) (hj : j < 12) (hpk : zs_PK S i (12 * c + j)) : zw_M lc ym_Ledger_settle bm_Ledger_settle 5 none { frames := 2, cells := 0, slots := 0, locals := 42 } G b0 176 (zp_p G b0 S) [.ref (b0 + zp_o 2 i 0), .int (nI c), .int (nI (j + 1)), .int x] (zw_Qv G b0 176 (zp_p G b0 (zu_Ledger_settle S i c j x))) := by
  refine zw_of (by decide) (Nat.le_of_ble_eq_true rfl) ?_
  intro p e s m below meth cx ls F hr hlk hE hP hS hl
  have hl : lv_has ls 5 [(0, .ref (b0 + zp_o 2 i 0)), (1, .int (nI c)), (2, .int (nI (j + 1))), (3, .int x)] := hl
  refine lv_aload_n F.1 F.2.1 dd_Ledger_settle_0 rfl (lv_at hl 0 rfl) ?_
  refine zc_gF (t := 2) (i := i) (j := 0) F hE hP ⟨by decide, (show i < 2 by omega), (show 0 < 1 by omega)⟩ rfl rfl zi_Ledger 5 (by decide) rfl wf_Ledger_42 rfl dd_Ledger_settle_1 ?_
  refine lv_iload_n F.1 F.2.1 dd_Ledger_settle_4 rfl (lv_at hl 1 rfl) ?_
  refine zc_aald (t := 17) (i := i) (j := 0) (k := c) (N := 3) (z := 4) (a := (b0 + zp_o 18 i c)) F hE hP ⟨by decide, (show i < 2 by omega), (show 0 < 1 by omega)⟩ rfl rfl rfl (by omega) (by decide) rfl dd_Ledger_settle_5 ?_
  refine zc_gN (t := 18) (i := i) (j := c) F hE hP ⟨by decide, (show i < 2 by omega), (show c < 3 by omega)⟩ rfl rfl zi_End 0 (by decide) rfl wf_Ledger_121 rfl dd_Ledger_settle_6 ?_
  refine lv_iload_n F.1 F.2.1 dd_Ledger_settle_9 rfl (lv_at hl 2 rfl) ?_
  refine lv_iconst (v := nI 1) F.1 F.2.1 dd_Ledger_settle_10 (by decide) ?_
  refine zn_isub F dd_Ledger_settle_11 (by omega) ?_
  refine zn_top (y := nI j) (congrArg nI (by omega)) ?_
  refine zc_aald (t := 19) (i := i) (j := c) (k := j) (N := 12) (z := 5) (a := (b0 + zp_o 20 i (12 * c + j))) F hE hP ⟨by decide, (show i < 2 by omega), (show c < 3 by omega)⟩ rfl rfl rfl (by omega) (by decide) rfl dd_Ledger_settle_12 ?_
  refine lv_astore F.1 F.2.1 dd_Ledger_settle_13 hl (by decide) (lv' := [(4, .ref (b0 + zp_o 20 i (12 * c + j))), (0, .ref (b0 + zp_o 2 i 0)), (1, .int (nI c)), (2, .int (nI (j + 1))), (3, .int x)]) rfl (fun ls hl => ?_)
  refine lv_aload F.1 F.2.1 dd_Ledger_settle_15 (lv_at hl 0 rfl) ?_
  refine lv_iload_n F.1 F.2.1 dd_Ledger_settle_17 rfl (lv_at hl 4 rfl) ?_
  refine zc_pN (t := 20) (i := i) (j := 12 * c + j) (kf := 6) F hE hP hS (fun _ h => h) ⟨by decide, (show i < 2 by omega), (show 12 * c + j < 36 by omega)⟩ rfl rfl zi_Packet zy_Packet zj_Packet zl_Packet 6 (by decide) rfl rfl wf_Ledger_187 (by decide +kernel) (Nat.le_of_ble_eq_true rfl) rfl dd_Ledger_settle_18 (fun H locs hP hS => ?_)
  refine lv_aload_n F.1 F.2.1 dd_Ledger_settle_21 rfl (lv_at hl 1 rfl) ?_
  refine zc_gF (t := 2) (i := i) (j := 0) F hE hP ⟨by decide, (show i < 2 by omega), (show 0 < 1 by omega)⟩ rfl rfl zi_Ledger 0 (by decide) rfl wf_Ledger_12 rfl dd_Ledger_settle_22 ?_
  refine lv_iload_n F.1 F.2.1 dd_Ledger_settle_25 rfl (lv_at hl 2 rfl) ?_
  refine lv_iload_n F.1 F.2.1 dd_Ledger_settle_26 rfl (lv_at hl 3 rfl) ?_
  refine zw_goi (zw_rS F hE hP (zc_Store_printSlot lc G b0 (zs_u S 20 i (12 * c + j) 6 x) c j) zk_Store_printSlot za_Store_printSlot wl_Ledger_155 ⟨rfl, rfl, Nat.le_of_ble_eq_true rfl, Nat.le_of_ble_eq_true rfl⟩ hl.1 rfl (Nat.le_of_ble_eq_true rfl) ⟨Nat.zero_le _, Nat.zero_le _⟩ dd_Ledger_settle_27) hS (fun _ h => h) (fun H locs hP _ _ hS => ?_)
  refine zw_gov (zw_rV F hE hP (zc_Store_drop lc G b0 (zs_u S 20 i (12 * c + j) 6 x) i 0 (6 + 12 * c + j) (by first | omega | assumption) (by first | omega | assumption) (by first | omega | assumption)) zk_Store_drop za_Store_drop zb_Store_drop wl_Ledger_200 ⟨rfl, rfl, Nat.le_of_ble_eq_true rfl, Nat.le_of_ble_eq_true rfl⟩ (zc_recv (t := 3) (i := i) (j := 0) hE hP ⟨by decide, (show i < 2 by omega), (show 0 < 9 by omega)⟩ rfl rfl) hl.1 rfl (Nat.le_of_ble_eq_true rfl) ⟨Nat.zero_le _, Nat.zero_le _⟩ dd_Ledger_settle_30) hS (fun _ h => h) (fun H locs hP _ _ hS => ?_)
  refine lv_iload_n F.1 F.2.1 dd_Ledger_settle_33 rfl (lv_at hl 4 rfl) ?_
  refine lv_iconst (v := nI 1) F.1 F.2.1 dd_Ledger_settle_34 (by decide) ?_
  refine lv_icmp_eq F.1 F.2.1 dd_Ledger_settle_35 (tgt := 48) rfl (fun h35 => ?_) (fun h35 => ?_)
  · exact zw_vret F hr hlk hP hS (congrArg (zp_p G b0) (by rw [zu_Ledger_settle, if_pos h35])) dd_Ledger_settle_48
  · refine lv_aload_n F.1 F.2.1 dd_Ledger_settle_38 rfl (lv_at hl 1 rfl) ?_
    refine zc_gF (t := 2) (i := i) (j := 0) F hE hP ⟨by decide, (show i < 2 by omega), (show 0 < 1 by omega)⟩ rfl rfl zi_Ledger 4 (by decide) rfl wf_Ledger_36 rfl dd_Ledger_settle_39 ?_
    refine lv_aload F.1 F.2.1 dd_Ledger_settle_42 (lv_at hl 0 rfl) ?_
    refine lv_iload_n F.1 F.2.1 dd_Ledger_settle_44 rfl (lv_at hl 2 rfl) ?_
    refine zw_gov (zw_rV F hE hP (zc_Bank_refund lc G b0 (zs_u (zs_u (zs_u S 20 i (12 * c + j) 6 x) 4 i 0 (6 + 12 * c + j) (nI 0)) 5 i 0 (6 + 12 * c + j) (nI 0)) i (12 * c + j) c (zs_n (S 20 i (12 * c + j) 2)) (zs_n (S 20 i (12 * c + j) 0)) (by first | omega | assumption) (by first | omega | assumption) (by first | omega | assumption) hpk.2.1.2 hpk.1.2 (by rw [zs_ut (by decide), zs_ut (by decide), zs_uk (by decide)]; exact hpk.2.1.1) (by rw [zs_ut (by decide), zs_ut (by decide), zs_uk (by decide)]; exact hpk.1.1)) zk_Bank_refund za_Bank_refund zb_Bank_refund wl_Ledger_204 ⟨rfl, rfl, Nat.le_of_ble_eq_true rfl, Nat.le_of_ble_eq_true rfl⟩ (zc_recv (t := 10) (i := i) (j := 0) hE hP ⟨by decide, (show i < 2 by omega), (show 0 < 1 by omega)⟩ rfl rfl) hl.1 rfl (Nat.le_of_ble_eq_true rfl) ⟨Nat.zero_le _, Nat.zero_le _⟩ dd_Ledger_settle_45) hS (fun _ h => h) (fun H locs hP _ _ hS => ?_)
    rw [zs_ut (by decide)] at hP
    rw [zs_ut (by decide)] at hP
    rw [zs_ut (by decide)] at hP
    rw [zs_ut (by decide)] at hP
    rw [zs_ut (by decide)] at hP
    rw [zs_uk (by decide)] at hP
    rw [zs_ut (by decide)] at hP
    rw [zs_ut (by decide)] at hP
    rw [zs_uk (by decide)] at hP
    rw [zs_ut (by decide)] at hP
    rw [zs_ut (by decide)] at hP
    rw [zs_ut (by decide)] at hP
    exact zw_vret F hr hlk hP hS (congrArg (zp_p G b0) (by rw [zu_Ledger_settle, if_neg h35])) dd_Ledger_settle_48
def zr_Ledger_proveNotReceived (S : zs_S) (i : Nat) (o : Nat) (c : Nat) (j : Nat) (h : Int32) : Int32 := if zs_or (S 4 i 0 c) = nI 1 then (if zs_nx (S 4 o 0 (3 + c)) ≤ nI (j + 1) then (zs_pv S i o h (3 + c) (zs_nx (S 4 o 0 (3 + c)))) else ((-5))) else (zs_pa S i o h (42 + 12 * c + j))
set_option maxHeartbeats 4000000 in
set_option maxRecDepth 100000 in
theorem zc_Ledger_proveNotReceived (lc : Launch) (G : zw_G) (b0 : Nat) (S : zs_S) (i : Nat) (o : Nat) (c : Nat) (j : Nat) (h : Int32) (hi : i < 2) (ho : o < 2) (hc : c < 3) (hj : j < 12) (hB : zs_B S) : zw_M lc ym_Ledger_proveNotReceived bm_Ledger_proveNotReceived 6 (some .int) { frames := 3, cells := 0, slots := 0, locals := 69 } G b0 176 (zp_p G b0 S) [.ref (b0 + zp_o 2 i 0), .ref (b0 + zp_o 2 o 0), .int (nI c), .int (nI (j + 1)), .int h] (zw_Qi G b0 176 (zp_p G b0 S) (zr_Ledger_proveNotReceived S i o c j h)) := by
  refine zw_of (by decide) (Nat.le_of_ble_eq_true rfl) ?_
  intro p e s m below meth cx ls F hr hlk hE hP hS hl
  have hl : lv_has ls 6 [(0, .ref (b0 + zp_o 2 i 0)), (1, .ref (b0 + zp_o 2 o 0)), (2, .int (nI c)), (3, .int (nI (j + 1))), (4, .int h)] := hl
  refine lv_aload_n F.1 F.2.1 dd_Ledger_proveNotReceived_0 rfl (lv_at hl 0 rfl) ?_
  refine lv_iload_n F.1 F.2.1 dd_Ledger_proveNotReceived_1 rfl (lv_at hl 2 rfl) ?_
  refine zw_goi (zw_rV F hE hP (zc_Ledger_isOrdered lc G b0 S i c (by first | omega | assumption) (by first | omega | assumption)) zk_Ledger_isOrdered za_Ledger_isOrdered zb_Ledger_isOrdered wl_Ledger_172 ⟨rfl, rfl, Nat.le_of_ble_eq_true rfl, Nat.le_of_ble_eq_true rfl⟩ (zc_recv (t := 2) (i := i) (j := 0) hE hP ⟨by decide, (show i < 2 by omega), (show 0 < 1 by omega)⟩ rfl rfl) hl.1 rfl (Nat.le_of_ble_eq_true rfl) ⟨Nat.zero_le _, Nat.zero_le _⟩ dd_Ledger_proveNotReceived_2) hS (fun _ h => h) (fun H locs hP _ _ hS => ?_)
  refine zn_bne F dd_Ledger_proveNotReceived_5 (tgt := 21) rfl (fun h5 => ?_) (fun h5 => ?_)
  · refine lv_aload_n F.1 F.2.1 dd_Ledger_proveNotReceived_21 rfl (lv_at hl 1 rfl) ?_
    refine lv_iload_n F.1 F.2.1 dd_Ledger_proveNotReceived_22 rfl (lv_at hl 2 rfl) ?_
    refine zw_goi (zw_rV F hE hP (zc_Ledger_nextToReceive lc G b0 S o c (by first | omega | assumption) (by first | omega | assumption)) zk_Ledger_nextToReceive za_Ledger_nextToReceive zb_Ledger_nextToReceive wl_Ledger_175 ⟨rfl, rfl, Nat.le_of_ble_eq_true rfl, Nat.le_of_ble_eq_true rfl⟩ (zc_recv (t := 2) (i := o) (j := 0) hE hP ⟨by decide, (show o < 2 by omega), (show 0 < 1 by omega)⟩ rfl rfl) hl.1 rfl (Nat.le_of_ble_eq_true rfl) ⟨Nat.zero_le _, Nat.zero_le _⟩ dd_Ledger_proveNotReceived_23) hS (fun _ h => h) (fun H locs hP _ _ hS => ?_)
    refine lv_istore F.1 F.2.1 dd_Ledger_proveNotReceived_26 hl (by decide) (lv' := [(5, .int (zs_nx (S 4 o 0 (3 + c)))), (0, .ref (b0 + zp_o 2 i 0)), (1, .ref (b0 + zp_o 2 o 0)), (2, .int (nI c)), (3, .int (nI (j + 1))), (4, .int h)]) rfl (fun ls hl => ?_)
    refine lv_iload F.1 F.2.1 dd_Ledger_proveNotReceived_28 (lv_at hl 0 rfl) ?_
    refine lv_iload_n F.1 F.2.1 dd_Ledger_proveNotReceived_30 rfl (lv_at hl 4 rfl) ?_
    refine lv_icmp_le F.1 F.2.1 dd_Ledger_proveNotReceived_31 (tgt := 39) rfl (fun h31 => ?_) (fun h31 => ?_)
    · refine lv_aload_n F.1 F.2.1 dd_Ledger_proveNotReceived_39 rfl (lv_at hl 1 rfl) ?_
      refine lv_aload_n F.1 F.2.1 dd_Ledger_proveNotReceived_40 rfl (lv_at hl 2 rfl) ?_
      refine lv_iload F.1 F.2.1 dd_Ledger_proveNotReceived_41 (lv_at hl 5 rfl) ?_
      refine lv_iload_n F.1 F.2.1 dd_Ledger_proveNotReceived_43 rfl (lv_at hl 3 rfl) ?_
      refine zw_goi (zw_rS F hE hP (zc_Store_nextSlot lc G b0 S c) zk_Store_nextSlot za_Store_nextSlot wl_Ledger_73 ⟨rfl, rfl, Nat.le_of_ble_eq_true rfl, Nat.le_of_ble_eq_true rfl⟩ hl.1 rfl (Nat.le_of_ble_eq_true rfl) ⟨Nat.zero_le _, Nat.zero_le _⟩ dd_Ledger_proveNotReceived_44) hS (fun _ h => h) (fun H locs hP _ _ hS => ?_)
      refine lv_iload F.1 F.2.1 dd_Ledger_proveNotReceived_47 (lv_at hl 0 rfl) ?_
      refine zw_goi (zw_rV F hE hP (zc_Ledger_proveValue lc G b0 S i o h (3 + c) (zs_nx (S 4 o 0 (3 + c))) (by first | omega | assumption) (by first | omega | assumption) (by first | omega | assumption) (by assumption)) zk_Ledger_proveValue za_Ledger_proveValue zb_Ledger_proveValue wl_Ledger_92 ⟨rfl, rfl, Nat.le_of_ble_eq_true rfl, Nat.le_of_ble_eq_true rfl⟩ (zc_recv (t := 2) (i := i) (j := 0) hE hP ⟨by decide, (show i < 2 by omega), (show 0 < 1 by omega)⟩ rfl rfl) hl.1 rfl (Nat.le_of_ble_eq_true rfl) ⟨Nat.zero_le _, Nat.zero_le _⟩ dd_Ledger_proveNotReceived_49) hS (fun _ h => h) (fun H locs hP _ _ hS => ?_)
      exact zw_iret F hr hlk hP hS rfl (by rw [zr_Ledger_proveNotReceived, if_pos h5, if_pos h31]) dd_Ledger_proveNotReceived_52
    · refine lv_bipush (v := (-5)) F.1 F.2.1 dd_Ledger_proveNotReceived_34 (by decide) ?_
      refine lv_goto F.1 F.2.1 dd_Ledger_proveNotReceived_36 (tgt := 52) rfl ?_
      exact zw_iret F hr hlk hP hS rfl (by rw [zr_Ledger_proveNotReceived, if_pos h5, if_neg h31]) dd_Ledger_proveNotReceived_52
  · refine lv_aload_n F.1 F.2.1 dd_Ledger_proveNotReceived_8 rfl (lv_at hl 0 rfl) ?_
    refine lv_aload_n F.1 F.2.1 dd_Ledger_proveNotReceived_9 rfl (lv_at hl 1 rfl) ?_
    refine lv_iload F.1 F.2.1 dd_Ledger_proveNotReceived_10 (lv_at hl 4 rfl) ?_
    refine lv_iload_n F.1 F.2.1 dd_Ledger_proveNotReceived_12 rfl (lv_at hl 2 rfl) ?_
    refine lv_iload_n F.1 F.2.1 dd_Ledger_proveNotReceived_13 rfl (lv_at hl 3 rfl) ?_
    refine zw_goi (zw_rS F hE hP (zc_Store_receiptSlot lc G b0 S c j) zk_Store_receiptSlot za_Store_receiptSlot wl_Ledger_178 ⟨rfl, rfl, Nat.le_of_ble_eq_true rfl, Nat.le_of_ble_eq_true rfl⟩ hl.1 rfl (Nat.le_of_ble_eq_true rfl) ⟨Nat.zero_le _, Nat.zero_le _⟩ dd_Ledger_proveNotReceived_14) hS (fun _ h => h) (fun H locs hP _ _ hS => ?_)
    refine zw_goi (zw_rV F hE hP (zc_Ledger_proveAbsence lc G b0 S i o h (42 + 12 * c + j) (by first | omega | assumption) (by first | omega | assumption) (by first | omega | assumption) (by assumption)) zk_Ledger_proveAbsence za_Ledger_proveAbsence zb_Ledger_proveAbsence wl_Ledger_196 ⟨rfl, rfl, Nat.le_of_ble_eq_true rfl, Nat.le_of_ble_eq_true rfl⟩ (zc_recv (t := 2) (i := i) (j := 0) hE hP ⟨by decide, (show i < 2 by omega), (show 0 < 1 by omega)⟩ rfl rfl) hl.1 rfl (Nat.le_of_ble_eq_true rfl) ⟨Nat.zero_le _, Nat.zero_le _⟩ dd_Ledger_proveNotReceived_17) hS (fun _ h => h) (fun H locs hP _ _ hS => ?_)
    exact zw_iret F hr hlk hP hS rfl (by rw [zr_Ledger_proveNotReceived, if_neg h5]) dd_Ledger_proveNotReceived_20
set_option maxHeartbeats 4000000 in
set_option maxRecDepth 100000 in
theorem zl_Bank_findVoucher {p : Program} {e : Env} {R : Room} {s : State} {m : MethodId} {below : List Frame} {meth : Method} {cx : Code} {av : Array Value} (lc : Launch) (G : zw_G) (b0 : Nat) (S : zs_S) (i : Nat) (x : Int32) (c n : Nat) (hi : i < 2) (hn : S 10 i 0 0 = nI n) (hn2 : n ≤ 5) (r0 : Nat) (F : CallFix p m cx bm_Bank_findVoucher 4 s av zw_WS "TwinLedgers$Bank") (hr : meth.sig.returnType = some .int) (hlk : meth.locks = false) (hE : zw_E G s) : ∀ (r k : Nat), k + r = n + 1 → 1 ≤ k → zs_fv (S 15 i 0) (S 16 i 0) x (nI c) k r = r0 → ∀ (ls : Array Slot) (H : Heap) (locs : List Loc), lv_has ls 4 [(3, .int (nI k)), (0, .ref (b0 + zp_o 10 i 0)), (1, .int x), (2, .int (nI c))] → va_P G.1 zw_cl (zw_l b0 176 (zp_p G b0 S)) H → va_S (zw_A b0 176) s.heap H locs → W p lc e R s m av below meth cx H locs 0 0 (MQ below (zw_Qi G b0 176 (zp_p G b0 S) (nI r0)) av s 0 0 (zw_A b0 176)) (F0 m 2 ls []) := by
  intro r
  induction r with
  | zero =>
    intro k hk hk1 hres ls H locs hl hP hS
    refine lv_iload_n F.1 F.2.1 dd_Bank_findVoucher_2 rfl (lv_at hl 0 rfl) ?_
    refine lv_aload_n F.1 F.2.1 dd_Bank_findVoucher_3 rfl (lv_at hl 1 rfl) ?_
    refine zc_gF (t := 10) (i := i) (j := 0) F hE hP ⟨by decide, (show i < 2 by omega), (show 0 < 1 by omega)⟩ rfl rfl zi_Bank 4 (by decide) rfl wf_Bank_26 rfl dd_Bank_findVoucher_4 ?_
    refine zn_top (y := nI n) (hn) ?_
    refine zn_cgt F dd_Bank_findVoucher_7 (tgt := 38) rfl (by omega) (by omega) (fun h7 => ?_) (fun h7 => absurd (show n < k by omega) h7)
    refine lv_iconst (v := nI 0) F.1 F.2.1 dd_Bank_findVoucher_38 (by decide) ?_
    exact zw_iret F hr hlk hP hS rfl (by rw [← hres]; rfl) dd_Bank_findVoucher_39
  | succ r ih =>
    intro k hk hk1 hres ls H locs hl hP hS
    refine lv_iload_n F.1 F.2.1 dd_Bank_findVoucher_2 rfl (lv_at hl 0 rfl) ?_
    refine lv_aload_n F.1 F.2.1 dd_Bank_findVoucher_3 rfl (lv_at hl 1 rfl) ?_
    refine zc_gF (t := 10) (i := i) (j := 0) F hE hP ⟨by decide, (show i < 2 by omega), (show 0 < 1 by omega)⟩ rfl rfl zi_Bank 4 (by decide) rfl wf_Bank_26 rfl dd_Bank_findVoucher_4 ?_
    refine zn_top (y := nI n) (hn) ?_
    refine zn_cgt F dd_Bank_findVoucher_7 (tgt := 38) rfl (by omega) (by omega) (fun h7 => absurd h7 (by omega)) (fun h7 => ?_)
    refine lv_aload_n F.1 F.2.1 dd_Bank_findVoucher_10 rfl (lv_at hl 1 rfl) ?_
    refine zc_gF (t := 10) (i := i) (j := 0) F hE hP ⟨by decide, (show i < 2 by omega), (show 0 < 1 by omega)⟩ rfl rfl zi_Bank 2 (by decide) rfl wf_Bank_19 rfl dd_Bank_findVoucher_11 ?_
    refine lv_iload_n F.1 F.2.1 dd_Bank_findVoucher_14 rfl (lv_at hl 0 rfl) ?_
    refine zc_iald (t := 15) (i := i) (j := 0) (k := k) (N := 6) F hE hP ⟨by decide, (show i < 2 by omega), (show 0 < 1 by omega)⟩ (fun _ => rfl) (by omega) (by decide) dd_Bank_findVoucher_15 ?_
    refine lv_iload_n F.1 F.2.1 dd_Bank_findVoucher_16 rfl (lv_at hl 2 rfl) ?_
    refine lv_icmp_ne F.1 F.2.1 dd_Bank_findVoucher_17 (tgt := 32) rfl (fun h17 => ?_) (fun h17 => ?_)
    · refine lv_iinc F.1 F.2.1 dd_Bank_findVoucher_32 hl (k := 0) rfl (v := nI (k + 1)) (nI_1 _) (by decide) (lv' := [(3, .int (nI (k + 1))), (0, .ref (b0 + zp_o 10 i 0)), (1, .int x), (2, .int (nI c))]) rfl (fun ls hl => ?_)
      refine lv_goto F.1 F.2.1 dd_Bank_findVoucher_35 (tgt := 2) rfl ?_
      exact ih (k + 1) (by omega) (by omega) (by rw [← hres, zs_fvs, if_neg h17]) ls H locs (lv_sub hl [0, 1, 2, 3] rfl) hP hS
    · refine lv_aload_n F.1 F.2.1 dd_Bank_findVoucher_20 rfl (lv_at hl 1 rfl) ?_
      refine zc_gF (t := 10) (i := i) (j := 0) F hE hP ⟨by decide, (show i < 2 by omega), (show 0 < 1 by omega)⟩ rfl rfl zi_Bank 3 (by decide) rfl wf_Bank_23 rfl dd_Bank_findVoucher_21 ?_
      refine lv_iload_n F.1 F.2.1 dd_Bank_findVoucher_24 rfl (lv_at hl 0 rfl) ?_
      refine zc_iald (t := 16) (i := i) (j := 0) (k := k) (N := 6) F hE hP ⟨by decide, (show i < 2 by omega), (show 0 < 1 by omega)⟩ (fun _ => rfl) (by omega) (by decide) dd_Bank_findVoucher_25 ?_
      refine lv_iload_n F.1 F.2.1 dd_Bank_findVoucher_26 rfl (lv_at hl 3 rfl) ?_
      refine lv_icmp_ne F.1 F.2.1 dd_Bank_findVoucher_27 (tgt := 32) rfl (fun h27 => ?_) (fun h27 => ?_)
      · refine lv_iinc F.1 F.2.1 dd_Bank_findVoucher_32 hl (k := 0) rfl (v := nI (k + 1)) (nI_1 _) (by decide) (lv' := [(3, .int (nI (k + 1))), (0, .ref (b0 + zp_o 10 i 0)), (1, .int x), (2, .int (nI c))]) rfl (fun ls hl => ?_)
        refine lv_goto F.1 F.2.1 dd_Bank_findVoucher_35 (tgt := 2) rfl ?_
        exact ih (k + 1) (by omega) (by omega) (by rw [← hres, zs_fvs, if_pos h17, if_neg h27]) ls H locs (lv_sub hl [0, 1, 2, 3] rfl) hP hS
      · refine lv_iload_n F.1 F.2.1 dd_Bank_findVoucher_30 rfl (lv_at hl 0 rfl) ?_
        exact zw_iret F hr hlk hP hS rfl (by rw [← hres, zs_fvs, if_pos h17, if_pos h27]) dd_Bank_findVoucher_31
set_option maxHeartbeats 4000000 in
set_option maxRecDepth 100000 in
theorem zc_Bank_findVoucher (lc : Launch) (G : zw_G) (b0 : Nat) (S : zs_S) (i : Nat) (x : Int32) (c : Nat) (n : Nat) (hi : i < 2) (hn : S 10 i 0 0 = nI n) (hn2 : n ≤ 5) : zw_M lc ym_Bank_findVoucher bm_Bank_findVoucher 4 (some .int) { frames := 0, cells := 0, slots := 0, locals := 0 } G b0 176 (zp_p G b0 S) [.ref (b0 + zp_o 10 i 0), .int x, .int (nI c)] (zw_Qi G b0 176 (zp_p G b0 S) (nI (zs_fv (S 15 i 0) (S 16 i 0) x (nI c) 1 n))) := by
  refine zw_of (by decide) (Nat.le_of_ble_eq_true rfl) ?_
  intro p e s m below meth cx ls F hr hlk hE hP hS hl
  have hl : lv_has ls 4 [(0, .ref (b0 + zp_o 10 i 0)), (1, .int x), (2, .int (nI c))] := hl
  refine lv_iconst (v := nI 1) F.1 F.2.1 dd_Bank_findVoucher_0 (by decide) ?_
  refine lv_istore_n F.1 F.2.1 dd_Bank_findVoucher_1 rfl hl (by decide) (lv' := [(3, .int (nI 1)), (0, .ref (b0 + zp_o 10 i 0)), (1, .int x), (2, .int (nI c))]) rfl (fun ls hl => ?_)
  exact zl_Bank_findVoucher lc G b0 S i x c n hi hn hn2 _ F hr hlk hE n 1 (by omega) (by omega) rfl ls _ _ (lv_sub hl [0, 1, 2, 3] rfl) hP hS
def zr_Bank_takeVoucher (S : zs_S) (i : Nat) (o : Nat) (j : Nat) (c : Nat) (t : Nat) (n : Nat) : Int32 := if nI (zs_fv (S 15 i 0) (S 16 i 0) (S 20 o j 0) (nI c) 1 n) = 0 then (if n < 5 then (nI 1) else (nI 0)) else (nI 1)
def zu_Bank_takeVoucher (S : zs_S) (i : Nat) (o : Nat) (j : Nat) (c : Nat) (t : Nat) (n : Nat) : zs_S := if nI (zs_fv (S 15 i 0) (S 16 i 0) (S 20 o j 0) (nI c) 1 n) = 0 then (if n < 5 then (zs_u (zs_u (zs_u (zs_u S 10 i 0 0 (nI (n + 1))) 15 i 0 (n + 1) (S 20 o j 0)) 16 i 0 (n + 1) (nI c)) 12 i t (n + 1) ((S 12 i t (n + 1)) + (S 20 o j 1))) else (S)) else (zs_u S 12 i t (zs_fv (S 15 i 0) (S 16 i 0) (S 20 o j 0) (nI c) 1 n) ((S 12 i t (zs_fv (S 15 i 0) (S 16 i 0) (S 20 o j 0) (nI c) 1 n)) + (S 20 o j 1)))
set_option maxHeartbeats 4000000 in
set_option maxRecDepth 100000 in
theorem zc_Bank_takeVoucher (lc : Launch) (G : zw_G) (b0 : Nat) (S : zs_S) (i : Nat) (o : Nat) (j : Nat) (c : Nat) (t : Nat) (n : Nat) (hi : i < 2) (ho : o < 2) (hj : j < 36) (hc : c < 3) (ht : t < 4) (hto : S 20 o j 3 = nI t) (hn : S 10 i 0 0 = nI n) (hn2 : n ≤ 5) : zw_M lc ym_Bank_takeVoucher bm_Bank_takeVoucher 4 (some .boolean) { frames := 1, cells := 0, slots := 0, locals := 23 } G b0 176 (zp_p G b0 S) [.ref (b0 + zp_o 10 i 0), .ref (b0 + zp_o 20 o j), .int (nI c)] (zw_Qi G b0 176 (zp_p G b0 (zu_Bank_takeVoucher S i o j c t n)) (zr_Bank_takeVoucher S i o j c t n)) := by
  refine zw_of (by decide) (Nat.le_of_ble_eq_true rfl) ?_
  intro p e s m below meth cx ls F hr hlk hE hP hS hl
  have hl : lv_has ls 4 [(0, .ref (b0 + zp_o 10 i 0)), (1, .ref (b0 + zp_o 20 o j)), (2, .int (nI c))] := hl
  refine lv_aload_n F.1 F.2.1 dd_Bank_takeVoucher_0 rfl (lv_at hl 0 rfl) ?_
  refine lv_aload_n F.1 F.2.1 dd_Bank_takeVoucher_1 rfl (lv_at hl 1 rfl) ?_
  refine zc_gN (t := 20) (i := o) (j := j) F hE hP ⟨by decide, (show o < 2 by omega), (show j < 36 by omega)⟩ rfl rfl zi_Packet 0 (by decide) rfl wf_Bank_35 rfl dd_Bank_takeVoucher_2 ?_
  refine lv_iload_n F.1 F.2.1 dd_Bank_takeVoucher_5 rfl (lv_at hl 2 rfl) ?_
  refine zw_goi (zw_rV F hE hP (zc_Bank_findVoucher lc G b0 S i (S 20 o j 0) c n (by first | omega | assumption) (by assumption) (by first | omega | assumption)) zk_Bank_findVoucher za_Bank_findVoucher zb_Bank_findVoucher wl_Bank_58 ⟨rfl, rfl, Nat.le_of_ble_eq_true rfl, Nat.le_of_ble_eq_true rfl⟩ (zc_recv (t := 10) (i := i) (j := 0) hE hP ⟨by decide, (show i < 2 by omega), (show 0 < 1 by omega)⟩ rfl rfl) hl.1 rfl (Nat.le_of_ble_eq_true rfl) ⟨Nat.zero_le _, Nat.zero_le _⟩ dd_Bank_takeVoucher_6) hS (fun _ h => h) (fun H locs hP _ _ hS => ?_)
  refine lv_istore_n F.1 F.2.1 dd_Bank_takeVoucher_9 rfl hl (by decide) (lv' := [(3, .int (nI (zs_fv (S 15 i 0) (S 16 i 0) (S 20 o j 0) (nI c) 1 n))), (0, .ref (b0 + zp_o 10 i 0)), (1, .ref (b0 + zp_o 20 o j)), (2, .int (nI c))]) rfl (fun ls hl => ?_)
  have hfv := zs_fv_le (S 15 i 0) (S 16 i 0) (S 20 o j 0) (nI c) n 1
  refine lv_iload_n F.1 F.2.1 dd_Bank_takeVoucher_10 rfl (lv_at hl 0 rfl) ?_
  refine lv_if_ne F.1 F.2.1 dd_Bank_takeVoucher_11 (tgt := 56) rfl (fun h11 => ?_) (fun h11 => ?_)
  · refine lv_aload_n F.1 F.2.1 dd_Bank_takeVoucher_56 rfl (lv_at hl 1 rfl) ?_
    refine zc_gF (t := 10) (i := i) (j := 0) F hE hP ⟨by decide, (show i < 2 by omega), (show 0 < 1 by omega)⟩ rfl rfl zi_Bank 0 (by decide) rfl wf_Bank_11 rfl dd_Bank_takeVoucher_57 ?_
    refine lv_aload_n F.1 F.2.1 dd_Bank_takeVoucher_60 rfl (lv_at hl 2 rfl) ?_
    refine zc_gN (t := 20) (i := o) (j := j) F hE hP ⟨by decide, (show o < 2 by omega), (show j < 36 by omega)⟩ rfl rfl zi_Packet 3 (by decide) rfl wf_Bank_45 rfl dd_Bank_takeVoucher_61 ?_
    refine zn_top (y := nI t) (hto) ?_
    refine zc_aald (t := 11) (i := i) (j := 0) (k := t) (N := 4) (z := 6) (a := (b0 + zp_o 12 i t)) F hE hP ⟨by decide, (show i < 2 by omega), (show 0 < 1 by omega)⟩ rfl rfl rfl (by omega) (by decide) rfl dd_Bank_takeVoucher_64 ?_
    refine lv_iload_n F.1 F.2.1 dd_Bank_takeVoucher_65 rfl (lv_at hl 0 rfl) ?_
    refine lv_dup2_11 F.1 F.2.1 dd_Bank_takeVoucher_66 rfl rfl ?_
    refine zc_iald (t := 12) (i := i) (j := t) (k := zs_fv (S 15 i 0) (S 16 i 0) (S 20 o j 0) (nI c) 1 n) (N := 6) F hE hP ⟨by decide, (show i < 2 by omega), (show t < 4 by omega)⟩ (fun _ => rfl) (by omega) (by decide) dd_Bank_takeVoucher_67 ?_
    refine lv_aload_n F.1 F.2.1 dd_Bank_takeVoucher_68 rfl (lv_at hl 2 rfl) ?_
    refine zc_gN (t := 20) (i := o) (j := j) F hE hP ⟨by decide, (show o < 2 by omega), (show j < 36 by omega)⟩ rfl rfl zi_Packet 1 (by decide) rfl wf_Bank_38 rfl dd_Bank_takeVoucher_69 ?_
    refine lv_iadd F.1 F.2.1 dd_Bank_takeVoucher_72 ?_
    refine zc_iast (t := 12) (i := i) (j := t) (k := zs_fv (S 15 i 0) (S 16 i 0) (S 20 o j 0) (nI c) 1 n) (N := 6) F hE hP hS (fun _ h => h) ⟨by decide, (show i < 2 by omega), (show t < 4 by omega)⟩ (fun _ => rfl) (by omega) (by decide)  dd_Bank_takeVoucher_73 (fun H locs hP hS => ?_)
    refine lv_iconst (v := nI 1) F.1 F.2.1 dd_Bank_takeVoucher_74 (by decide) ?_
    exact zw_zret F hr hlk hP hS (congrArg (zp_p G b0) (by rw [zu_Bank_takeVoucher, if_neg h11])) (by decide) (by rw [zr_Bank_takeVoucher, if_neg h11]) dd_Bank_takeVoucher_75
  · refine lv_aload_n F.1 F.2.1 dd_Bank_takeVoucher_14 rfl (lv_at hl 1 rfl) ?_
    refine zc_gF (t := 10) (i := i) (j := 0) F hE hP ⟨by decide, (show i < 2 by omega), (show 0 < 1 by omega)⟩ rfl rfl zi_Bank 4 (by decide) rfl wf_Bank_26 rfl dd_Bank_takeVoucher_15 ?_
    refine zn_top (y := nI n) (hn) ?_
    refine lv_iconst (v := nI 5) F.1 F.2.1 dd_Bank_takeVoucher_18 (by decide) ?_
    refine zn_clt F dd_Bank_takeVoucher_19 (tgt := 24) rfl (by omega) (by omega) (fun h19 => ?_) (fun h19 => ?_)
    · refine lv_aload_n F.1 F.2.1 dd_Bank_takeVoucher_24 rfl (lv_at hl 1 rfl) ?_
      refine lv_dup F.1 F.2.1 dd_Bank_takeVoucher_25 rfl ?_
      refine zc_gF (t := 10) (i := i) (j := 0) F hE hP ⟨by decide, (show i < 2 by omega), (show 0 < 1 by omega)⟩ rfl rfl zi_Bank 4 (by decide) rfl wf_Bank_26 rfl dd_Bank_takeVoucher_26 ?_
      refine zn_top (y := nI n) (hn) ?_
      refine lv_iconst (v := nI 1) F.1 F.2.1 dd_Bank_takeVoucher_29 (by decide) ?_
      refine zn_iadd F dd_Bank_takeVoucher_30 ?_
      refine zc_pF (t := 10) (i := i) (j := 0) (kf := 0) F hE hP hS (fun _ h => h) ⟨by decide, (show i < 2 by omega), (show 0 < 1 by omega)⟩ rfl rfl zi_Bank zy_Bank zj_Bank zl_Bank 4 (by decide) rfl rfl wf_Bank_26 (by decide +kernel) (Nat.le_of_ble_eq_true rfl) rfl dd_Bank_takeVoucher_31 (fun H locs hP hS => ?_)
      refine lv_aload_n F.1 F.2.1 dd_Bank_takeVoucher_34 rfl (lv_at hl 1 rfl) ?_
      refine zc_gF (t := 10) (i := i) (j := 0) F hE hP ⟨by decide, (show i < 2 by omega), (show 0 < 1 by omega)⟩ rfl rfl zi_Bank 4 (by decide) rfl wf_Bank_26 rfl dd_Bank_takeVoucher_35 ?_
      refine zn_top (y := nI (n + 1)) (by rw [zs_us]) ?_
      refine lv_istore_n F.1 F.2.1 dd_Bank_takeVoucher_38 rfl hl (by decide) (lv' := [(3, .int (nI (n + 1))), (0, .ref (b0 + zp_o 10 i 0)), (1, .ref (b0 + zp_o 20 o j)), (2, .int (nI c))]) rfl (fun ls hl => ?_)
      refine lv_aload_n F.1 F.2.1 dd_Bank_takeVoucher_39 rfl (lv_at hl 1 rfl) ?_
      refine zc_gF (t := 10) (i := i) (j := 0) F hE hP ⟨by decide, (show i < 2 by omega), (show 0 < 1 by omega)⟩ rfl rfl zi_Bank 2 (by decide) rfl wf_Bank_19 rfl dd_Bank_takeVoucher_40 ?_
      refine lv_iload_n F.1 F.2.1 dd_Bank_takeVoucher_43 rfl (lv_at hl 0 rfl) ?_
      refine lv_aload_n F.1 F.2.1 dd_Bank_takeVoucher_44 rfl (lv_at hl 2 rfl) ?_
      refine zc_gN (t := 20) (i := o) (j := j) F hE hP ⟨by decide, (show o < 2 by omega), (show j < 36 by omega)⟩ rfl rfl zi_Packet 0 (by decide) rfl wf_Bank_35 rfl dd_Bank_takeVoucher_45 ?_
      refine zn_top (y := S 20 o j 0) (by rw [zs_ut (by decide)]) ?_
      refine zc_iast (t := 15) (i := i) (j := 0) (k := n + 1) (N := 6) F hE hP hS (fun _ h => h) ⟨by decide, (show i < 2 by omega), (show 0 < 1 by omega)⟩ (fun _ => rfl) (by omega) (by decide)  dd_Bank_takeVoucher_48 (fun H locs hP hS => ?_)
      refine lv_aload_n F.1 F.2.1 dd_Bank_takeVoucher_49 rfl (lv_at hl 1 rfl) ?_
      refine zc_gF (t := 10) (i := i) (j := 0) F hE hP ⟨by decide, (show i < 2 by omega), (show 0 < 1 by omega)⟩ rfl rfl zi_Bank 3 (by decide) rfl wf_Bank_23 rfl dd_Bank_takeVoucher_50 ?_
      refine lv_iload_n F.1 F.2.1 dd_Bank_takeVoucher_53 rfl (lv_at hl 0 rfl) ?_
      refine lv_iload_n F.1 F.2.1 dd_Bank_takeVoucher_54 rfl (lv_at hl 3 rfl) ?_
      refine zc_iast (t := 16) (i := i) (j := 0) (k := n + 1) (N := 6) F hE hP hS (fun _ h => h) ⟨by decide, (show i < 2 by omega), (show 0 < 1 by omega)⟩ (fun _ => rfl) (by omega) (by decide)  dd_Bank_takeVoucher_55 (fun H locs hP hS => ?_)
      refine lv_aload_n F.1 F.2.1 dd_Bank_takeVoucher_56 rfl (lv_at hl 1 rfl) ?_
      refine zc_gF (t := 10) (i := i) (j := 0) F hE hP ⟨by decide, (show i < 2 by omega), (show 0 < 1 by omega)⟩ rfl rfl zi_Bank 0 (by decide) rfl wf_Bank_11 rfl dd_Bank_takeVoucher_57 ?_
      refine lv_aload_n F.1 F.2.1 dd_Bank_takeVoucher_60 rfl (lv_at hl 2 rfl) ?_
      refine zc_gN (t := 20) (i := o) (j := j) F hE hP ⟨by decide, (show o < 2 by omega), (show j < 36 by omega)⟩ rfl rfl zi_Packet 3 (by decide) rfl wf_Bank_45 rfl dd_Bank_takeVoucher_61 ?_
      refine zn_top (y := S 20 o j 3) (by rw [zs_ut (by decide), zs_ut (by decide), zs_ut (by decide)]) ?_
      refine zn_top (y := nI t) (hto) ?_
      refine zc_aald (t := 11) (i := i) (j := 0) (k := t) (N := 4) (z := 6) (a := (b0 + zp_o 12 i t)) F hE hP ⟨by decide, (show i < 2 by omega), (show 0 < 1 by omega)⟩ rfl rfl rfl (by omega) (by decide) rfl dd_Bank_takeVoucher_64 ?_
      refine lv_iload_n F.1 F.2.1 dd_Bank_takeVoucher_65 rfl (lv_at hl 0 rfl) ?_
      refine lv_dup2_11 F.1 F.2.1 dd_Bank_takeVoucher_66 rfl rfl ?_
      refine zc_iald (t := 12) (i := i) (j := t) (k := n + 1) (N := 6) F hE hP ⟨by decide, (show i < 2 by omega), (show t < 4 by omega)⟩ (fun _ => rfl) (by omega) (by decide) dd_Bank_takeVoucher_67 ?_
      refine zn_top (y := S 12 i t (n + 1)) (by rw [zs_ut (by decide), zs_ut (by decide), zs_ut (by decide)]) ?_
      refine lv_aload_n F.1 F.2.1 dd_Bank_takeVoucher_68 rfl (lv_at hl 2 rfl) ?_
      refine zc_gN (t := 20) (i := o) (j := j) F hE hP ⟨by decide, (show o < 2 by omega), (show j < 36 by omega)⟩ rfl rfl zi_Packet 1 (by decide) rfl wf_Bank_38 rfl dd_Bank_takeVoucher_69 ?_
      refine zn_top (y := S 20 o j 1) (by rw [zs_ut (by decide), zs_ut (by decide), zs_ut (by decide)]) ?_
      refine lv_iadd F.1 F.2.1 dd_Bank_takeVoucher_72 ?_
      refine zc_iast (t := 12) (i := i) (j := t) (k := n + 1) (N := 6) F hE hP hS (fun _ h => h) ⟨by decide, (show i < 2 by omega), (show t < 4 by omega)⟩ (fun _ => rfl) (by omega) (by decide)  dd_Bank_takeVoucher_73 (fun H locs hP hS => ?_)
      refine lv_iconst (v := nI 1) F.1 F.2.1 dd_Bank_takeVoucher_74 (by decide) ?_
      exact zw_zret F hr hlk hP hS (congrArg (zp_p G b0) (by rw [zu_Bank_takeVoucher, if_pos h11, if_pos h19])) (by decide) (by rw [zr_Bank_takeVoucher, if_pos h11, if_pos h19]) dd_Bank_takeVoucher_75
    · refine lv_iconst (v := nI 0) F.1 F.2.1 dd_Bank_takeVoucher_22 (by decide) ?_
      exact zw_zret F hr hlk hP hS (congrArg (zp_p G b0) (by rw [zu_Bank_takeVoucher, if_pos h11, if_neg h19])) (by decide) (by rw [zr_Bank_takeVoucher, if_pos h11, if_neg h19]) dd_Bank_takeVoucher_23
def zr_Bank_take (S : zs_S) (i : Nat) (o : Nat) (j : Nat) (c : Nat) (t : Nat) (bk : Nat) (n : Nat) : Int32 := if S 20 o j 3 = nI 3 then (nI 0) else (if ¬ S 20 o j 5 ≤ 0 then (zr_Bank_takeBack S i o j c t (bk - 1)) else (zr_Bank_takeVoucher S i o j c t n))
def zu_Bank_take (S : zs_S) (i : Nat) (o : Nat) (j : Nat) (c : Nat) (t : Nat) (bk : Nat) (n : Nat) : zs_S := if S 20 o j 3 = nI 3 then (S) else (if ¬ S 20 o j 5 ≤ 0 then ((zu_Bank_takeBack S i o j c t (bk - 1))) else ((zu_Bank_takeVoucher S i o j c t n)))
set_option maxHeartbeats 4000000 in
set_option maxRecDepth 100000 in
theorem zc_Bank_take (lc : Launch) (G : zw_G) (b0 : Nat) (S : zs_S) (i : Nat) (o : Nat) (j : Nat) (c : Nat) (t : Nat) (bk : Nat) (n : Nat) (hi : i < 2) (ho : o < 2) (hj : j < 36) (hc : c < 3) (ht : t < 4) (hto : S 20 o j 3 = nI t) (hbk : S 20 o j 5 = nI bk) (hbk6 : bk ≤ 6) (hn : S 10 i 0 0 = nI n) (hn2 : n ≤ 5) : zw_M lc ym_Bank_take bm_Bank_take 3 (some .boolean) { frames := 2, cells := 0, slots := 0, locals := 46 } G b0 176 (zp_p G b0 S) [.ref (b0 + zp_o 10 i 0), .ref (b0 + zp_o 20 o j), .int (nI c)] (zw_Qi G b0 176 (zp_p G b0 (zu_Bank_take S i o j c t bk n)) (zr_Bank_take S i o j c t bk n)) := by
  refine zw_of (by decide) (Nat.le_of_ble_eq_true rfl) ?_
  intro p e s m below meth cx ls F hr hlk hE hP hS hl
  have hl : lv_has ls 3 [(0, .ref (b0 + zp_o 10 i 0)), (1, .ref (b0 + zp_o 20 o j)), (2, .int (nI c))] := hl
  refine lv_aload_n F.1 F.2.1 dd_Bank_take_0 rfl (lv_at hl 1 rfl) ?_
  refine zc_gN (t := 20) (i := o) (j := j) F hE hP ⟨by decide, (show o < 2 by omega), (show j < 36 by omega)⟩ rfl rfl zi_Packet 3 (by decide) rfl wf_Bank_45 rfl dd_Bank_take_1 ?_
  refine lv_iconst (v := nI 3) F.1 F.2.1 dd_Bank_take_4 (by decide) ?_
  refine lv_icmp_ne F.1 F.2.1 dd_Bank_take_5 (tgt := 10) rfl (fun h5 => ?_) (fun h5 => ?_)
  · refine lv_aload_n F.1 F.2.1 dd_Bank_take_10 rfl (lv_at hl 1 rfl) ?_
    refine zw_goi (zw_rV F hE hP (zc_Packet_goesBack lc G b0 S o j (by first | omega | assumption) (by first | omega | assumption)) zk_Packet_goesBack za_Packet_goesBack zb_Packet_goesBack wl_Bank_41 ⟨rfl, rfl, Nat.le_of_ble_eq_true rfl, Nat.le_of_ble_eq_true rfl⟩ (zc_recv (t := 20) (i := o) (j := j) hE hP ⟨by decide, (show o < 2 by omega), (show j < 36 by omega)⟩ rfl rfl) hl.1 rfl (Nat.le_of_ble_eq_true rfl) ⟨Nat.zero_le _, Nat.zero_le _⟩ dd_Bank_take_11) hS (fun _ h => h) (fun H locs hP _ _ hS => ?_)
    refine zn_beq F dd_Bank_take_14 (tgt := 26) rfl (fun h14 => ?_) (fun h14 => ?_)
    · refine lv_aload_n F.1 F.2.1 dd_Bank_take_26 rfl (lv_at hl 0 rfl) ?_
      refine lv_aload_n F.1 F.2.1 dd_Bank_take_27 rfl (lv_at hl 1 rfl) ?_
      refine lv_iload_n F.1 F.2.1 dd_Bank_take_28 rfl (lv_at hl 2 rfl) ?_
      refine zw_goi (zw_rV F hE hP (zc_Bank_takeVoucher lc G b0 S i o j c t n (by first | omega | assumption) (by first | omega | assumption) (by first | omega | assumption) (by first | omega | assumption) (by first | omega | assumption) (by assumption) (by assumption) (by first | omega | assumption)) zk_Bank_takeVoucher za_Bank_takeVoucher zb_Bank_takeVoucher wl_Bank_52 ⟨rfl, rfl, Nat.le_of_ble_eq_true rfl, Nat.le_of_ble_eq_true rfl⟩ (zc_recv (t := 10) (i := i) (j := 0) hE hP ⟨by decide, (show i < 2 by omega), (show 0 < 1 by omega)⟩ rfl rfl) hl.1 rfl (Nat.le_of_ble_eq_true rfl) ⟨Nat.zero_le _, Nat.zero_le _⟩ dd_Bank_take_29) hS (fun _ h => h) (fun H locs hP _ _ hS => ?_)
      exact zw_zret F hr hlk hP hS (congrArg (zp_p G b0) (by rw [zu_Bank_take, if_neg h5, if_neg h14])) (by unfold zr_Bank_takeVoucher; repeat (first | exact Or.inl (by decide) | exact Or.inr (by decide) | split)) (by rw [zr_Bank_take, if_neg h5, if_neg h14]) dd_Bank_take_32
    · have hb1 : 1 ≤ bk := zn_pos1 hbk h14
      refine lv_aload_n F.1 F.2.1 dd_Bank_take_17 rfl (lv_at hl 0 rfl) ?_
      refine lv_aload_n F.1 F.2.1 dd_Bank_take_18 rfl (lv_at hl 1 rfl) ?_
      refine lv_iload_n F.1 F.2.1 dd_Bank_take_19 rfl (lv_at hl 2 rfl) ?_
      refine zw_goi (zw_rV F hE hP (zc_Bank_takeBack lc G b0 S i o j c t (bk - 1) (by first | omega | assumption) (by first | omega | assumption) (by first | omega | assumption) (by first | omega | assumption) (by first | omega | assumption) (by first | omega | assumption) (by assumption) (by rw [hbk]; exact congrArg nI (by omega))) zk_Bank_takeBack za_Bank_takeBack zb_Bank_takeBack wl_Bank_48 ⟨rfl, rfl, Nat.le_of_ble_eq_true rfl, Nat.le_of_ble_eq_true rfl⟩ (zc_recv (t := 10) (i := i) (j := 0) hE hP ⟨by decide, (show i < 2 by omega), (show 0 < 1 by omega)⟩ rfl rfl) hl.1 rfl (Nat.le_of_ble_eq_true rfl) ⟨Nat.zero_le _, Nat.zero_le _⟩ dd_Bank_take_20) hS (fun _ h => h) (fun H locs hP _ _ hS => ?_)
      refine lv_goto F.1 F.2.1 dd_Bank_take_23 (tgt := 32) rfl ?_
      exact zw_zret F hr hlk hP hS (congrArg (zp_p G b0) (by rw [zu_Bank_take, if_neg h5, if_pos h14])) (by unfold zr_Bank_takeBack; repeat (first | exact Or.inl (by decide) | exact Or.inr (by decide) | split)) (by rw [zr_Bank_take, if_neg h5, if_pos h14]) dd_Bank_take_32
  · refine lv_iconst (v := nI 0) F.1 F.2.1 dd_Bank_take_8 (by decide) ?_
    exact zw_zret F hr hlk hP hS (congrArg (zp_p G b0) (by rw [zu_Bank_take, if_pos h5])) (by decide) (by rw [zr_Bank_take, if_pos h5]) dd_Bank_take_9
def zr_Ledger_receivePacket (S : zs_S) (i : Nat) (o : Nat) (c : Nat) (j : Nat) (h : Int32) (w : Int32) : Int32 := if zs_st (S 4 i 0 c) = nI 3 then (if S 2 i 0 0 < S 20 o (12 * c + j) 4 then (if zr_Ledger_isReceivable S i c j = 0 then ((-8)) else (if w = 0 then (if zs_pv S i o h (6 + 12 * c + j) (zs_print (S 20 o (12 * c + j)) (nI 0)) = 0 then (if zr_Bank_take S i o (12 * c + j) c (zs_n (S 20 o (12 * c + j) 3)) (zs_n (S 20 o (12 * c + j) 5)) (zs_n (S 10 i 0 0)) = 0 then (nI 2) else (nI 1)) else (zs_pv S i o h (6 + 12 * c + j) (zs_print (S 20 o (12 * c + j)) (nI 0)))) else (if zs_pv S i o h (6 + 12 * c + j) (zs_print (S 20 o (12 * c + j)) (nI 1)) = 0 then (if zr_Bank_take S i o (12 * c + j) c (zs_n (S 20 o (12 * c + j) 3)) (zs_n (S 20 o (12 * c + j) 5)) (zs_n (S 10 i 0 0)) = 0 then (nI 2) else (nI 1)) else (zs_pv S i o h (6 + 12 * c + j) (zs_print (S 20 o (12 * c + j)) (nI 1)))))) else ((-9))) else ((-2))
def zu_Ledger_receivePacket (S : zs_S) (i : Nat) (o : Nat) (c : Nat) (j : Nat) (h : Int32) (w : Int32) : zs_S := if zs_st (S 4 i 0 c) = nI 3 then (if S 2 i 0 0 < S 20 o (12 * c + j) 4 then (if zr_Ledger_isReceivable S i c j = 0 then (S) else (if w = 0 then (if zs_pv S i o h (6 + 12 * c + j) (zs_print (S 20 o (12 * c + j)) (nI 0)) = 0 then (if zr_Bank_take S i o (12 * c + j) c (zs_n (S 20 o (12 * c + j) 3)) (zs_n (S 20 o (12 * c + j) 5)) (zs_n (S 10 i 0 0)) = 0 then ((zu_Ledger_noteReceived (zu_Bank_take S i o (12 * c + j) c (zs_n (S 20 o (12 * c + j) 3)) (zs_n (S 20 o (12 * c + j) 5)) (zs_n (S 10 i 0 0))) i c j (nI 2))) else ((zu_Ledger_noteReceived (zu_Bank_take S i o (12 * c + j) c (zs_n (S 20 o (12 * c + j) 3)) (zs_n (S 20 o (12 * c + j) 5)) (zs_n (S 10 i 0 0))) i c j (nI 1)))) else (S)) else (if zs_pv S i o h (6 + 12 * c + j) (zs_print (S 20 o (12 * c + j)) (nI 1)) = 0 then (if zr_Bank_take S i o (12 * c + j) c (zs_n (S 20 o (12 * c + j) 3)) (zs_n (S 20 o (12 * c + j) 5)) (zs_n (S 10 i 0 0)) = 0 then ((zu_Ledger_noteReceived (zu_Bank_take S i o (12 * c + j) c (zs_n (S 20 o (12 * c + j) 3)) (zs_n (S 20 o (12 * c + j) 5)) (zs_n (S 10 i 0 0))) i c j (nI 2))) else ((zu_Ledger_noteReceived (zu_Bank_take S i o (12 * c + j) c (zs_n (S 20 o (12 * c + j) 3)) (zs_n (S 20 o (12 * c + j) 5)) (zs_n (S 10 i 0 0))) i c j (nI 1)))) else (S)))) else (S)) else (S)
set_option maxHeartbeats 4000000 in
set_option maxRecDepth 100000 in
theorem zc_Ledger_receivePacket (lc : Launch) (G : zw_G) (b0 : Nat) (S : zs_S) (i : Nat) (o : Nat) (c : Nat) (j : Nat) (h : Int32) (w : Int32) (hi : i < 2) (ho : o < 2) (hc : c < 3) (hj : j < 12) (hB : zs_B S) (hpk : zs_PK S o (12 * c + j)) (hv : S 10 i 0 0 = nI (zs_n (S 10 i 0 0))) (hv2 : zs_n (S 10 i 0 0) ≤ 5) : zw_M lc ym_Ledger_receivePacket bm_Ledger_receivePacket 10 (some .int) { frames := 4, cells := 0, slots := 0, locals := 86 } G b0 176 (zp_p G b0 S) [.ref (b0 + zp_o 2 i 0), .ref (b0 + zp_o 2 o 0), .int (nI c), .int (nI (j + 1)), .int h, .int w] (zw_Qi G b0 176 (zp_p G b0 (zu_Ledger_receivePacket S i o c j h w)) (zr_Ledger_receivePacket S i o c j h w)) := by
  refine zw_of (by decide) (Nat.le_of_ble_eq_true rfl) ?_
  intro p e s m below meth cx ls F hr hlk hE hP hS hl
  have hl : lv_has ls 10 [(0, .ref (b0 + zp_o 2 i 0)), (1, .ref (b0 + zp_o 2 o 0)), (2, .int (nI c)), (3, .int (nI (j + 1))), (4, .int h), (5, .int w)] := hl
  refine lv_aload_n F.1 F.2.1 dd_Ledger_receivePacket_0 rfl (lv_at hl 1 rfl) ?_
  refine zc_gF (t := 2) (i := o) (j := 0) F hE hP ⟨by decide, (show o < 2 by omega), (show 0 < 1 by omega)⟩ rfl rfl zi_Ledger 5 (by decide) rfl wf_Ledger_42 rfl dd_Ledger_receivePacket_1 ?_
  refine lv_iload_n F.1 F.2.1 dd_Ledger_receivePacket_4 rfl (lv_at hl 2 rfl) ?_
  refine zc_aald (t := 17) (i := o) (j := 0) (k := c) (N := 3) (z := 4) (a := (b0 + zp_o 18 o c)) F hE hP ⟨by decide, (show o < 2 by omega), (show 0 < 1 by omega)⟩ rfl rfl rfl (by omega) (by decide) rfl dd_Ledger_receivePacket_5 ?_
  refine zc_gN (t := 18) (i := o) (j := c) F hE hP ⟨by decide, (show o < 2 by omega), (show c < 3 by omega)⟩ rfl rfl zi_End 0 (by decide) rfl wf_Ledger_121 rfl dd_Ledger_receivePacket_6 ?_
  refine lv_iload_n F.1 F.2.1 dd_Ledger_receivePacket_9 rfl (lv_at hl 3 rfl) ?_
  refine lv_iconst (v := nI 1) F.1 F.2.1 dd_Ledger_receivePacket_10 (by decide) ?_
  refine zn_isub F dd_Ledger_receivePacket_11 (by omega) ?_
  refine zn_top (y := nI j) (congrArg nI (by omega)) ?_
  refine zc_aald (t := 19) (i := o) (j := c) (k := j) (N := 12) (z := 5) (a := (b0 + zp_o 20 o (12 * c + j))) F hE hP ⟨by decide, (show o < 2 by omega), (show c < 3 by omega)⟩ rfl rfl rfl (by omega) (by decide) rfl dd_Ledger_receivePacket_12 ?_
  refine lv_astore F.1 F.2.1 dd_Ledger_receivePacket_13 hl (by decide) (lv' := [(6, .ref (b0 + zp_o 20 o (12 * c + j))), (0, .ref (b0 + zp_o 2 i 0)), (1, .ref (b0 + zp_o 2 o 0)), (2, .int (nI c)), (3, .int (nI (j + 1))), (4, .int h), (5, .int w)]) rfl (fun ls hl => ?_)
  refine lv_aload_n F.1 F.2.1 dd_Ledger_receivePacket_15 rfl (lv_at hl 1 rfl) ?_
  refine lv_iload_n F.1 F.2.1 dd_Ledger_receivePacket_16 rfl (lv_at hl 3 rfl) ?_
  refine zw_goi (zw_rV F hE hP (zc_Ledger_stateOf lc G b0 S i c (by first | omega | assumption) (by first | omega | assumption)) zk_Ledger_stateOf za_Ledger_stateOf zb_Ledger_stateOf wl_Ledger_96 ⟨rfl, rfl, Nat.le_of_ble_eq_true rfl, Nat.le_of_ble_eq_true rfl⟩ (zc_recv (t := 2) (i := i) (j := 0) hE hP ⟨by decide, (show i < 2 by omega), (show 0 < 1 by omega)⟩ rfl rfl) hl.1 rfl (Nat.le_of_ble_eq_true rfl) ⟨Nat.zero_le _, Nat.zero_le _⟩ dd_Ledger_receivePacket_17) hS (fun _ h => h) (fun H locs hP _ _ hS => ?_)
  refine lv_iconst (v := nI 3) F.1 F.2.1 dd_Ledger_receivePacket_20 (by decide) ?_
  refine lv_icmp_eq F.1 F.2.1 dd_Ledger_receivePacket_21 (tgt := 27) rfl (fun h21 => ?_) (fun h21 => ?_)
  · refine lv_aload_n F.1 F.2.1 dd_Ledger_receivePacket_27 rfl (lv_at hl 1 rfl) ?_
    refine zc_gF (t := 2) (i := i) (j := 0) F hE hP ⟨by decide, (show i < 2 by omega), (show 0 < 1 by omega)⟩ rfl rfl zi_Ledger 6 (by decide) rfl wf_Ledger_47 rfl dd_Ledger_receivePacket_28 ?_
    refine lv_aload F.1 F.2.1 dd_Ledger_receivePacket_31 (lv_at hl 0 rfl) ?_
    refine zc_gN (t := 20) (i := o) (j := 12 * c + j) F hE hP ⟨by decide, (show o < 2 by omega), (show 12 * c + j < 36 by omega)⟩ rfl rfl zi_Packet 4 (by decide) rfl wf_Ledger_142 rfl dd_Ledger_receivePacket_33 ?_
    refine lv_icmp_lt F.1 F.2.1 dd_Ledger_receivePacket_36 (tgt := 42) rfl (fun h36 => ?_) (fun h36 => ?_)
    · refine lv_aload_n F.1 F.2.1 dd_Ledger_receivePacket_42 rfl (lv_at hl 1 rfl) ?_
      refine lv_iload_n F.1 F.2.1 dd_Ledger_receivePacket_43 rfl (lv_at hl 3 rfl) ?_
      refine lv_iload_n F.1 F.2.1 dd_Ledger_receivePacket_44 rfl (lv_at hl 4 rfl) ?_
      refine zw_goi (zw_rV F hE hP (zc_Ledger_isReceivable lc G b0 S i c j (by first | omega | assumption) (by first | omega | assumption) (by first | omega | assumption) (by assumption)) zk_Ledger_isReceivable za_Ledger_isReceivable zb_Ledger_isReceivable wl_Ledger_161 ⟨rfl, rfl, Nat.le_of_ble_eq_true rfl, Nat.le_of_ble_eq_true rfl⟩ (zc_recv (t := 2) (i := i) (j := 0) hE hP ⟨by decide, (show i < 2 by omega), (show 0 < 1 by omega)⟩ rfl rfl) hl.1 rfl (Nat.le_of_ble_eq_true rfl) ⟨Nat.zero_le _, Nat.zero_le _⟩ dd_Ledger_receivePacket_45) hS (fun _ h => h) (fun H locs hP _ _ hS => ?_)
      refine lv_if_ne F.1 F.2.1 dd_Ledger_receivePacket_48 (tgt := 54) rfl (fun h48 => ?_) (fun h48 => ?_)
      · refine lv_aload F.1 F.2.1 dd_Ledger_receivePacket_54 (lv_at hl 0 rfl) ?_
        refine lv_iload F.1 F.2.1 dd_Ledger_receivePacket_56 (lv_at hl 6 rfl) ?_
        refine lv_if_eq F.1 F.2.1 dd_Ledger_receivePacket_58 (tgt := 65) rfl (fun h58 => ?_) (fun h58 => ?_)
        · refine lv_iconst (v := nI 0) F.1 F.2.1 dd_Ledger_receivePacket_65 (by decide) ?_
          refine zw_goi (zw_rV F hE hP (zc_Packet_printWith lc G b0 S o (12 * c + j) (nI 0) (by first | omega | assumption) (by first | omega | assumption)) zk_Packet_printWith za_Packet_printWith zb_Packet_printWith wl_Ledger_158 ⟨rfl, rfl, Nat.le_of_ble_eq_true rfl, Nat.le_of_ble_eq_true rfl⟩ (zc_recv (t := 20) (i := o) (j := 12 * c + j) hE hP ⟨by decide, (show o < 2 by omega), (show 12 * c + j < 36 by omega)⟩ rfl rfl) hl.1 rfl (Nat.le_of_ble_eq_true rfl) ⟨Nat.zero_le _, Nat.zero_le _⟩ dd_Ledger_receivePacket_66) hS (fun _ h => h) (fun H locs hP _ _ hS => ?_)
          refine lv_istore F.1 F.2.1 dd_Ledger_receivePacket_69 hl (by decide) (lv' := [(7, .int (zs_print (S 20 o (12 * c + j)) (nI 0))), (6, .ref (b0 + zp_o 20 o (12 * c + j))), (0, .ref (b0 + zp_o 2 i 0)), (1, .ref (b0 + zp_o 2 o 0)), (2, .int (nI c)), (3, .int (nI (j + 1))), (4, .int h), (5, .int w)]) rfl (fun ls hl => ?_)
          refine lv_aload_n F.1 F.2.1 dd_Ledger_receivePacket_71 rfl (lv_at hl 2 rfl) ?_
          refine lv_aload_n F.1 F.2.1 dd_Ledger_receivePacket_72 rfl (lv_at hl 3 rfl) ?_
          refine lv_iload F.1 F.2.1 dd_Ledger_receivePacket_73 (lv_at hl 6 rfl) ?_
          refine lv_iload_n F.1 F.2.1 dd_Ledger_receivePacket_75 rfl (lv_at hl 4 rfl) ?_
          refine lv_iload_n F.1 F.2.1 dd_Ledger_receivePacket_76 rfl (lv_at hl 5 rfl) ?_
          refine zw_goi (zw_rS F hE hP (zc_Store_printSlot lc G b0 S c j) zk_Store_printSlot za_Store_printSlot wl_Ledger_155 ⟨rfl, rfl, Nat.le_of_ble_eq_true rfl, Nat.le_of_ble_eq_true rfl⟩ hl.1 rfl (Nat.le_of_ble_eq_true rfl) ⟨Nat.zero_le _, Nat.zero_le _⟩ dd_Ledger_receivePacket_77) hS (fun _ h => h) (fun H locs hP _ _ hS => ?_)
          refine lv_iload F.1 F.2.1 dd_Ledger_receivePacket_80 (lv_at hl 0 rfl) ?_
          refine zw_goi (zw_rV F hE hP (zc_Ledger_proveValue lc G b0 S i o h (6 + 12 * c + j) (zs_print (S 20 o (12 * c + j)) (nI 0)) (by first | omega | assumption) (by first | omega | assumption) (by first | omega | assumption) (by assumption)) zk_Ledger_proveValue za_Ledger_proveValue zb_Ledger_proveValue wl_Ledger_92 ⟨rfl, rfl, Nat.le_of_ble_eq_true rfl, Nat.le_of_ble_eq_true rfl⟩ (zc_recv (t := 2) (i := i) (j := 0) hE hP ⟨by decide, (show i < 2 by omega), (show 0 < 1 by omega)⟩ rfl rfl) hl.1 rfl (Nat.le_of_ble_eq_true rfl) ⟨Nat.zero_le _, Nat.zero_le _⟩ dd_Ledger_receivePacket_82) hS (fun _ h => h) (fun H locs hP _ _ hS => ?_)
          refine lv_istore F.1 F.2.1 dd_Ledger_receivePacket_85 hl (by decide) (lv' := [(8, .int (zs_pv S i o h (6 + 12 * c + j) (zs_print (S 20 o (12 * c + j)) (nI 0)))), (7, .int (zs_print (S 20 o (12 * c + j)) (nI 0))), (6, .ref (b0 + zp_o 20 o (12 * c + j))), (0, .ref (b0 + zp_o 2 i 0)), (1, .ref (b0 + zp_o 2 o 0)), (2, .int (nI c)), (3, .int (nI (j + 1))), (4, .int h), (5, .int w)]) rfl (fun ls hl => ?_)
          refine lv_iload F.1 F.2.1 dd_Ledger_receivePacket_87 (lv_at hl 0 rfl) ?_
          refine lv_if_eq F.1 F.2.1 dd_Ledger_receivePacket_89 (tgt := 95) rfl (fun h89 => ?_) (fun h89 => ?_)
          · refine lv_aload_n F.1 F.2.1 dd_Ledger_receivePacket_95 rfl (lv_at hl 3 rfl) ?_
            refine zc_gF (t := 2) (i := i) (j := 0) F hE hP ⟨by decide, (show i < 2 by omega), (show 0 < 1 by omega)⟩ rfl rfl zi_Ledger 4 (by decide) rfl wf_Ledger_36 rfl dd_Ledger_receivePacket_96 ?_
            refine lv_aload F.1 F.2.1 dd_Ledger_receivePacket_99 (lv_at hl 2 rfl) ?_
            refine lv_iload_n F.1 F.2.1 dd_Ledger_receivePacket_101 rfl (lv_at hl 5 rfl) ?_
            refine zw_goi (zw_rV F hE hP (zc_Bank_take lc G b0 S i o (12 * c + j) c (zs_n (S 20 o (12 * c + j) 3)) (zs_n (S 20 o (12 * c + j) 5)) (zs_n (S 10 i 0 0)) (by first | omega | assumption) (by first | omega | assumption) (by first | omega | assumption) (by first | omega | assumption) hpk.2.2.1.2 hpk.2.2.1.1 hpk.2.2.2.1 hpk.2.2.2.2 (by assumption) (by first | omega | assumption)) zk_Bank_take za_Bank_take zb_Bank_take wl_Ledger_165 ⟨rfl, rfl, Nat.le_of_ble_eq_true rfl, Nat.le_of_ble_eq_true rfl⟩ (zc_recv (t := 10) (i := i) (j := 0) hE hP ⟨by decide, (show i < 2 by omega), (show 0 < 1 by omega)⟩ rfl rfl) hl.1 rfl (Nat.le_of_ble_eq_true rfl) ⟨Nat.zero_le _, Nat.zero_le _⟩ dd_Ledger_receivePacket_102) hS (fun _ h => h) (fun H locs hP _ _ hS => ?_)
            refine lv_if_eq F.1 F.2.1 dd_Ledger_receivePacket_105 (tgt := 112) rfl (fun h105 => ?_) (fun h105 => ?_)
            · refine lv_iconst (v := nI 2) F.1 F.2.1 dd_Ledger_receivePacket_112 (by decide) ?_
              refine lv_istore F.1 F.2.1 dd_Ledger_receivePacket_113 hl (by decide) (lv' := [(9, .int (nI 2)), (8, .int (zs_pv S i o h (6 + 12 * c + j) (zs_print (S 20 o (12 * c + j)) (nI 0)))), (7, .int (zs_print (S 20 o (12 * c + j)) (nI 0))), (6, .ref (b0 + zp_o 20 o (12 * c + j))), (0, .ref (b0 + zp_o 2 i 0)), (1, .ref (b0 + zp_o 2 o 0)), (2, .int (nI c)), (3, .int (nI (j + 1))), (4, .int h), (5, .int w)]) rfl (fun ls hl => ?_)
              refine lv_aload_n F.1 F.2.1 dd_Ledger_receivePacket_115 rfl (lv_at hl 4 rfl) ?_
              refine lv_iload_n F.1 F.2.1 dd_Ledger_receivePacket_116 rfl (lv_at hl 6 rfl) ?_
              refine lv_iload_n F.1 F.2.1 dd_Ledger_receivePacket_117 rfl (lv_at hl 7 rfl) ?_
              refine lv_iload F.1 F.2.1 dd_Ledger_receivePacket_118 (lv_at hl 0 rfl) ?_
              refine zw_gov (zw_rV F hE hP (zc_Ledger_noteReceived lc G b0 (zu_Bank_take S i o (12 * c + j) c (zs_n (S 20 o (12 * c + j) 3)) (zs_n (S 20 o (12 * c + j) 5)) (zs_n (S 10 i 0 0))) i c j (nI 2) (by first | omega | assumption) (by first | omega | assumption) (by first | omega | assumption)) zk_Ledger_noteReceived za_Ledger_noteReceived zb_Ledger_noteReceived wl_Ledger_169 ⟨rfl, rfl, Nat.le_of_ble_eq_true rfl, Nat.le_of_ble_eq_true rfl⟩ (zc_recv (t := 2) (i := i) (j := 0) hE hP ⟨by decide, (show i < 2 by omega), (show 0 < 1 by omega)⟩ rfl rfl) hl.1 rfl (Nat.le_of_ble_eq_true rfl) ⟨Nat.zero_le _, Nat.zero_le _⟩ dd_Ledger_receivePacket_120) hS (fun _ h => h) (fun H locs hP _ _ hS => ?_)
              refine lv_iload F.1 F.2.1 dd_Ledger_receivePacket_123 (lv_at hl 0 rfl) ?_
              exact zw_iret F hr hlk hP hS (congrArg (zp_p G b0) (by rw [zu_Ledger_receivePacket, if_pos h21, if_pos h36, if_neg h48, if_pos h58, if_pos h89, if_pos h105])) (by rw [zr_Ledger_receivePacket, if_pos h21, if_pos h36, if_neg h48, if_pos h58, if_pos h89, if_pos h105]) dd_Ledger_receivePacket_125
            · refine lv_iconst (v := nI 1) F.1 F.2.1 dd_Ledger_receivePacket_108 (by decide) ?_
              refine lv_goto F.1 F.2.1 dd_Ledger_receivePacket_109 (tgt := 113) rfl ?_
              refine lv_istore F.1 F.2.1 dd_Ledger_receivePacket_113 hl (by decide) (lv' := [(9, .int (nI 1)), (8, .int (zs_pv S i o h (6 + 12 * c + j) (zs_print (S 20 o (12 * c + j)) (nI 0)))), (7, .int (zs_print (S 20 o (12 * c + j)) (nI 0))), (6, .ref (b0 + zp_o 20 o (12 * c + j))), (0, .ref (b0 + zp_o 2 i 0)), (1, .ref (b0 + zp_o 2 o 0)), (2, .int (nI c)), (3, .int (nI (j + 1))), (4, .int h), (5, .int w)]) rfl (fun ls hl => ?_)
              refine lv_aload_n F.1 F.2.1 dd_Ledger_receivePacket_115 rfl (lv_at hl 4 rfl) ?_
              refine lv_iload_n F.1 F.2.1 dd_Ledger_receivePacket_116 rfl (lv_at hl 6 rfl) ?_
              refine lv_iload_n F.1 F.2.1 dd_Ledger_receivePacket_117 rfl (lv_at hl 7 rfl) ?_
              refine lv_iload F.1 F.2.1 dd_Ledger_receivePacket_118 (lv_at hl 0 rfl) ?_
              refine zw_gov (zw_rV F hE hP (zc_Ledger_noteReceived lc G b0 (zu_Bank_take S i o (12 * c + j) c (zs_n (S 20 o (12 * c + j) 3)) (zs_n (S 20 o (12 * c + j) 5)) (zs_n (S 10 i 0 0))) i c j (nI 1) (by first | omega | assumption) (by first | omega | assumption) (by first | omega | assumption)) zk_Ledger_noteReceived za_Ledger_noteReceived zb_Ledger_noteReceived wl_Ledger_169 ⟨rfl, rfl, Nat.le_of_ble_eq_true rfl, Nat.le_of_ble_eq_true rfl⟩ (zc_recv (t := 2) (i := i) (j := 0) hE hP ⟨by decide, (show i < 2 by omega), (show 0 < 1 by omega)⟩ rfl rfl) hl.1 rfl (Nat.le_of_ble_eq_true rfl) ⟨Nat.zero_le _, Nat.zero_le _⟩ dd_Ledger_receivePacket_120) hS (fun _ h => h) (fun H locs hP _ _ hS => ?_)
              refine lv_iload F.1 F.2.1 dd_Ledger_receivePacket_123 (lv_at hl 0 rfl) ?_
              exact zw_iret F hr hlk hP hS (congrArg (zp_p G b0) (by rw [zu_Ledger_receivePacket, if_pos h21, if_pos h36, if_neg h48, if_pos h58, if_pos h89, if_neg h105])) (by rw [zr_Ledger_receivePacket, if_pos h21, if_pos h36, if_neg h48, if_pos h58, if_pos h89, if_neg h105]) dd_Ledger_receivePacket_125
          · refine lv_iload F.1 F.2.1 dd_Ledger_receivePacket_92 (lv_at hl 0 rfl) ?_
            exact zw_iret F hr hlk hP hS (congrArg (zp_p G b0) (by rw [zu_Ledger_receivePacket, if_pos h21, if_pos h36, if_neg h48, if_pos h58, if_neg h89])) (by rw [zr_Ledger_receivePacket, if_pos h21, if_pos h36, if_neg h48, if_pos h58, if_neg h89]) dd_Ledger_receivePacket_94
        · refine lv_iconst (v := nI 1) F.1 F.2.1 dd_Ledger_receivePacket_61 (by decide) ?_
          refine lv_goto F.1 F.2.1 dd_Ledger_receivePacket_62 (tgt := 66) rfl ?_
          refine zw_goi (zw_rV F hE hP (zc_Packet_printWith lc G b0 S o (12 * c + j) (nI 1) (by first | omega | assumption) (by first | omega | assumption)) zk_Packet_printWith za_Packet_printWith zb_Packet_printWith wl_Ledger_158 ⟨rfl, rfl, Nat.le_of_ble_eq_true rfl, Nat.le_of_ble_eq_true rfl⟩ (zc_recv (t := 20) (i := o) (j := 12 * c + j) hE hP ⟨by decide, (show o < 2 by omega), (show 12 * c + j < 36 by omega)⟩ rfl rfl) hl.1 rfl (Nat.le_of_ble_eq_true rfl) ⟨Nat.zero_le _, Nat.zero_le _⟩ dd_Ledger_receivePacket_66) hS (fun _ h => h) (fun H locs hP _ _ hS => ?_)
          refine lv_istore F.1 F.2.1 dd_Ledger_receivePacket_69 hl (by decide) (lv' := [(7, .int (zs_print (S 20 o (12 * c + j)) (nI 1))), (6, .ref (b0 + zp_o 20 o (12 * c + j))), (0, .ref (b0 + zp_o 2 i 0)), (1, .ref (b0 + zp_o 2 o 0)), (2, .int (nI c)), (3, .int (nI (j + 1))), (4, .int h), (5, .int w)]) rfl (fun ls hl => ?_)
          refine lv_aload_n F.1 F.2.1 dd_Ledger_receivePacket_71 rfl (lv_at hl 2 rfl) ?_
          refine lv_aload_n F.1 F.2.1 dd_Ledger_receivePacket_72 rfl (lv_at hl 3 rfl) ?_
          refine lv_iload F.1 F.2.1 dd_Ledger_receivePacket_73 (lv_at hl 6 rfl) ?_
          refine lv_iload_n F.1 F.2.1 dd_Ledger_receivePacket_75 rfl (lv_at hl 4 rfl) ?_
          refine lv_iload_n F.1 F.2.1 dd_Ledger_receivePacket_76 rfl (lv_at hl 5 rfl) ?_
          refine zw_goi (zw_rS F hE hP (zc_Store_printSlot lc G b0 S c j) zk_Store_printSlot za_Store_printSlot wl_Ledger_155 ⟨rfl, rfl, Nat.le_of_ble_eq_true rfl, Nat.le_of_ble_eq_true rfl⟩ hl.1 rfl (Nat.le_of_ble_eq_true rfl) ⟨Nat.zero_le _, Nat.zero_le _⟩ dd_Ledger_receivePacket_77) hS (fun _ h => h) (fun H locs hP _ _ hS => ?_)
          refine lv_iload F.1 F.2.1 dd_Ledger_receivePacket_80 (lv_at hl 0 rfl) ?_
          refine zw_goi (zw_rV F hE hP (zc_Ledger_proveValue lc G b0 S i o h (6 + 12 * c + j) (zs_print (S 20 o (12 * c + j)) (nI 1)) (by first | omega | assumption) (by first | omega | assumption) (by first | omega | assumption) (by assumption)) zk_Ledger_proveValue za_Ledger_proveValue zb_Ledger_proveValue wl_Ledger_92 ⟨rfl, rfl, Nat.le_of_ble_eq_true rfl, Nat.le_of_ble_eq_true rfl⟩ (zc_recv (t := 2) (i := i) (j := 0) hE hP ⟨by decide, (show i < 2 by omega), (show 0 < 1 by omega)⟩ rfl rfl) hl.1 rfl (Nat.le_of_ble_eq_true rfl) ⟨Nat.zero_le _, Nat.zero_le _⟩ dd_Ledger_receivePacket_82) hS (fun _ h => h) (fun H locs hP _ _ hS => ?_)
          refine lv_istore F.1 F.2.1 dd_Ledger_receivePacket_85 hl (by decide) (lv' := [(8, .int (zs_pv S i o h (6 + 12 * c + j) (zs_print (S 20 o (12 * c + j)) (nI 1)))), (7, .int (zs_print (S 20 o (12 * c + j)) (nI 1))), (6, .ref (b0 + zp_o 20 o (12 * c + j))), (0, .ref (b0 + zp_o 2 i 0)), (1, .ref (b0 + zp_o 2 o 0)), (2, .int (nI c)), (3, .int (nI (j + 1))), (4, .int h), (5, .int w)]) rfl (fun ls hl => ?_)
          refine lv_iload F.1 F.2.1 dd_Ledger_receivePacket_87 (lv_at hl 0 rfl) ?_
          refine lv_if_eq F.1 F.2.1 dd_Ledger_receivePacket_89 (tgt := 95) rfl (fun h89 => ?_) (fun h89 => ?_)
          · refine lv_aload_n F.1 F.2.1 dd_Ledger_receivePacket_95 rfl (lv_at hl 3 rfl) ?_
            refine zc_gF (t := 2) (i := i) (j := 0) F hE hP ⟨by decide, (show i < 2 by omega), (show 0 < 1 by omega)⟩ rfl rfl zi_Ledger 4 (by decide) rfl wf_Ledger_36 rfl dd_Ledger_receivePacket_96 ?_
            refine lv_aload F.1 F.2.1 dd_Ledger_receivePacket_99 (lv_at hl 2 rfl) ?_
            refine lv_iload_n F.1 F.2.1 dd_Ledger_receivePacket_101 rfl (lv_at hl 5 rfl) ?_
            refine zw_goi (zw_rV F hE hP (zc_Bank_take lc G b0 S i o (12 * c + j) c (zs_n (S 20 o (12 * c + j) 3)) (zs_n (S 20 o (12 * c + j) 5)) (zs_n (S 10 i 0 0)) (by first | omega | assumption) (by first | omega | assumption) (by first | omega | assumption) (by first | omega | assumption) hpk.2.2.1.2 hpk.2.2.1.1 hpk.2.2.2.1 hpk.2.2.2.2 (by assumption) (by first | omega | assumption)) zk_Bank_take za_Bank_take zb_Bank_take wl_Ledger_165 ⟨rfl, rfl, Nat.le_of_ble_eq_true rfl, Nat.le_of_ble_eq_true rfl⟩ (zc_recv (t := 10) (i := i) (j := 0) hE hP ⟨by decide, (show i < 2 by omega), (show 0 < 1 by omega)⟩ rfl rfl) hl.1 rfl (Nat.le_of_ble_eq_true rfl) ⟨Nat.zero_le _, Nat.zero_le _⟩ dd_Ledger_receivePacket_102) hS (fun _ h => h) (fun H locs hP _ _ hS => ?_)
            refine lv_if_eq F.1 F.2.1 dd_Ledger_receivePacket_105 (tgt := 112) rfl (fun h105 => ?_) (fun h105 => ?_)
            · refine lv_iconst (v := nI 2) F.1 F.2.1 dd_Ledger_receivePacket_112 (by decide) ?_
              refine lv_istore F.1 F.2.1 dd_Ledger_receivePacket_113 hl (by decide) (lv' := [(9, .int (nI 2)), (8, .int (zs_pv S i o h (6 + 12 * c + j) (zs_print (S 20 o (12 * c + j)) (nI 1)))), (7, .int (zs_print (S 20 o (12 * c + j)) (nI 1))), (6, .ref (b0 + zp_o 20 o (12 * c + j))), (0, .ref (b0 + zp_o 2 i 0)), (1, .ref (b0 + zp_o 2 o 0)), (2, .int (nI c)), (3, .int (nI (j + 1))), (4, .int h), (5, .int w)]) rfl (fun ls hl => ?_)
              refine lv_aload_n F.1 F.2.1 dd_Ledger_receivePacket_115 rfl (lv_at hl 4 rfl) ?_
              refine lv_iload_n F.1 F.2.1 dd_Ledger_receivePacket_116 rfl (lv_at hl 6 rfl) ?_
              refine lv_iload_n F.1 F.2.1 dd_Ledger_receivePacket_117 rfl (lv_at hl 7 rfl) ?_
              refine lv_iload F.1 F.2.1 dd_Ledger_receivePacket_118 (lv_at hl 0 rfl) ?_
              refine zw_gov (zw_rV F hE hP (zc_Ledger_noteReceived lc G b0 (zu_Bank_take S i o (12 * c + j) c (zs_n (S 20 o (12 * c + j) 3)) (zs_n (S 20 o (12 * c + j) 5)) (zs_n (S 10 i 0 0))) i c j (nI 2) (by first | omega | assumption) (by first | omega | assumption) (by first | omega | assumption)) zk_Ledger_noteReceived za_Ledger_noteReceived zb_Ledger_noteReceived wl_Ledger_169 ⟨rfl, rfl, Nat.le_of_ble_eq_true rfl, Nat.le_of_ble_eq_true rfl⟩ (zc_recv (t := 2) (i := i) (j := 0) hE hP ⟨by decide, (show i < 2 by omega), (show 0 < 1 by omega)⟩ rfl rfl) hl.1 rfl (Nat.le_of_ble_eq_true rfl) ⟨Nat.zero_le _, Nat.zero_le _⟩ dd_Ledger_receivePacket_120) hS (fun _ h => h) (fun H locs hP _ _ hS => ?_)
              refine lv_iload F.1 F.2.1 dd_Ledger_receivePacket_123 (lv_at hl 0 rfl) ?_
              exact zw_iret F hr hlk hP hS (congrArg (zp_p G b0) (by rw [zu_Ledger_receivePacket, if_pos h21, if_pos h36, if_neg h48, if_neg h58, if_pos h89, if_pos h105])) (by rw [zr_Ledger_receivePacket, if_pos h21, if_pos h36, if_neg h48, if_neg h58, if_pos h89, if_pos h105]) dd_Ledger_receivePacket_125
            · refine lv_iconst (v := nI 1) F.1 F.2.1 dd_Ledger_receivePacket_108 (by decide) ?_
              refine lv_goto F.1 F.2.1 dd_Ledger_receivePacket_109 (tgt := 113) rfl ?_
              refine lv_istore F.1 F.2.1 dd_Ledger_receivePacket_113 hl (by decide) (lv' := [(9, .int (nI 1)), (8, .int (zs_pv S i o h (6 + 12 * c + j) (zs_print (S 20 o (12 * c + j)) (nI 1)))), (7, .int (zs_print (S 20 o (12 * c + j)) (nI 1))), (6, .ref (b0 + zp_o 20 o (12 * c + j))), (0, .ref (b0 + zp_o 2 i 0)), (1, .ref (b0 + zp_o 2 o 0)), (2, .int (nI c)), (3, .int (nI (j + 1))), (4, .int h), (5, .int w)]) rfl (fun ls hl => ?_)
              refine lv_aload_n F.1 F.2.1 dd_Ledger_receivePacket_115 rfl (lv_at hl 4 rfl) ?_
              refine lv_iload_n F.1 F.2.1 dd_Ledger_receivePacket_116 rfl (lv_at hl 6 rfl) ?_
              refine lv_iload_n F.1 F.2.1 dd_Ledger_receivePacket_117 rfl (lv_at hl 7 rfl) ?_
              refine lv_iload F.1 F.2.1 dd_Ledger_receivePacket_118 (lv_at hl 0 rfl) ?_
              refine zw_gov (zw_rV F hE hP (zc_Ledger_noteReceived lc G b0 (zu_Bank_take S i o (12 * c + j) c (zs_n (S 20 o (12 * c + j) 3)) (zs_n (S 20 o (12 * c + j) 5)) (zs_n (S 10 i 0 0))) i c j (nI 1) (by first | omega | assumption) (by first | omega | assumption) (by first | omega | assumption)) zk_Ledger_noteReceived za_Ledger_noteReceived zb_Ledger_noteReceived wl_Ledger_169 ⟨rfl, rfl, Nat.le_of_ble_eq_true rfl, Nat.le_of_ble_eq_true rfl⟩ (zc_recv (t := 2) (i := i) (j := 0) hE hP ⟨by decide, (show i < 2 by omega), (show 0 < 1 by omega)⟩ rfl rfl) hl.1 rfl (Nat.le_of_ble_eq_true rfl) ⟨Nat.zero_le _, Nat.zero_le _⟩ dd_Ledger_receivePacket_120) hS (fun _ h => h) (fun H locs hP _ _ hS => ?_)
              refine lv_iload F.1 F.2.1 dd_Ledger_receivePacket_123 (lv_at hl 0 rfl) ?_
              exact zw_iret F hr hlk hP hS (congrArg (zp_p G b0) (by rw [zu_Ledger_receivePacket, if_pos h21, if_pos h36, if_neg h48, if_neg h58, if_pos h89, if_neg h105])) (by rw [zr_Ledger_receivePacket, if_pos h21, if_pos h36, if_neg h48, if_neg h58, if_pos h89, if_neg h105]) dd_Ledger_receivePacket_125
          · refine lv_iload F.1 F.2.1 dd_Ledger_receivePacket_92 (lv_at hl 0 rfl) ?_
            exact zw_iret F hr hlk hP hS (congrArg (zp_p G b0) (by rw [zu_Ledger_receivePacket, if_pos h21, if_pos h36, if_neg h48, if_neg h58, if_neg h89])) (by rw [zr_Ledger_receivePacket, if_pos h21, if_pos h36, if_neg h48, if_neg h58, if_neg h89]) dd_Ledger_receivePacket_94
      · refine lv_bipush (v := (-8)) F.1 F.2.1 dd_Ledger_receivePacket_51 (by decide) ?_
        exact zw_iret F hr hlk hP hS (congrArg (zp_p G b0) (by rw [zu_Ledger_receivePacket, if_pos h21, if_pos h36, if_pos h48])) (by rw [zr_Ledger_receivePacket, if_pos h21, if_pos h36, if_pos h48]) dd_Ledger_receivePacket_53
    · refine lv_bipush (v := (-9)) F.1 F.2.1 dd_Ledger_receivePacket_39 (by decide) ?_
      exact zw_iret F hr hlk hP hS (congrArg (zp_p G b0) (by rw [zu_Ledger_receivePacket, if_pos h21, if_neg h36])) (by rw [zr_Ledger_receivePacket, if_pos h21, if_neg h36]) dd_Ledger_receivePacket_41
  · refine lv_bipush (v := (-2)) F.1 F.2.1 dd_Ledger_receivePacket_24 (by decide) ?_
    exact zw_iret F hr hlk hP hS (congrArg (zp_p G b0) (by rw [zu_Ledger_receivePacket, if_neg h21])) (by rw [zr_Ledger_receivePacket, if_neg h21]) dd_Ledger_receivePacket_26
def zr_Ledger_settleAnswered (S : zs_S) (i : Nat) (o : Nat) (c : Nat) (j : Nat) (h : Int32) : Int32 := if zs_st (S 4 i 0 c) = nI 3 then (if zs_or (S 4 i 0 c) = nI 1 then (if nI (j + 1) = S 18 i c 1 then (if S 20 i (12 * c + j) 6 = 0 then (if S 5 o 0 (78 + 12 * c + j) = 0 then ((-5)) else (if zs_pv S i o h (78 + 12 * c + j) (S 4 o 0 (78 + 12 * c + j)) = 0 then (if zs_or (S 4 i 0 c) = nI 1 then (S 4 o 0 (78 + 12 * c + j)) else (S 4 o 0 (78 + 12 * c + j))) else (zs_pv S i o h (78 + 12 * c + j) (S 4 o 0 (78 + 12 * c + j))))) else ((-8))) else (if S 20 i (12 * c + j) 6 = 0 then ((-8)) else ((-8)))) else (if S 20 i (12 * c + j) 6 = 0 then (if S 5 o 0 (78 + 12 * c + j) = 0 then ((-5)) else (if zs_pv S i o h (78 + 12 * c + j) (S 4 o 0 (78 + 12 * c + j)) = 0 then (if zs_or (S 4 i 0 c) = nI 1 then (S 4 o 0 (78 + 12 * c + j)) else (S 4 o 0 (78 + 12 * c + j))) else (zs_pv S i o h (78 + 12 * c + j) (S 4 o 0 (78 + 12 * c + j))))) else ((-8)))) else ((-2))
def zu_Ledger_settleAnswered (S : zs_S) (i : Nat) (o : Nat) (c : Nat) (j : Nat) (h : Int32) : zs_S := if zs_st (S 4 i 0 c) = nI 3 then (if zs_or (S 4 i 0 c) = nI 1 then (if nI (j + 1) = S 18 i c 1 then (if S 20 i (12 * c + j) 6 = 0 then (if S 5 o 0 (78 + 12 * c + j) = 0 then (S) else (if zs_pv S i o h (78 + 12 * c + j) (S 4 o 0 (78 + 12 * c + j)) = 0 then (if zs_or (S 4 i 0 c) = nI 1 then ((zu_Ledger_settle (zs_u S 18 i c 1 (nI ((j + 1) + 1))) i c j (S 4 o 0 (78 + 12 * c + j)))) else ((zu_Ledger_settle S i c j (S 4 o 0 (78 + 12 * c + j))))) else (S))) else (S)) else (if S 20 i (12 * c + j) 6 = 0 then (S) else (S))) else (if S 20 i (12 * c + j) 6 = 0 then (if S 5 o 0 (78 + 12 * c + j) = 0 then (S) else (if zs_pv S i o h (78 + 12 * c + j) (S 4 o 0 (78 + 12 * c + j)) = 0 then (if zs_or (S 4 i 0 c) = nI 1 then ((zu_Ledger_settle (zs_u S 18 i c 1 (nI ((j + 1) + 1))) i c j (S 4 o 0 (78 + 12 * c + j)))) else ((zu_Ledger_settle S i c j (S 4 o 0 (78 + 12 * c + j))))) else (S))) else (S))) else (S)
set_option maxHeartbeats 4000000 in
set_option maxRecDepth 100000 in
theorem zc_Ledger_settleAnswered (lc : Launch) (G : zw_G) (b0 : Nat) (S : zs_S) (i : Nat) (o : Nat) (c : Nat) (j : Nat) (h : Int32) (hi : i < 2) (ho : o < 2) (hc : c < 3) (hj : j < 12) (hB : zs_B S) (hpk : zs_PK S i (12 * c + j)) : zw_M lc ym_Ledger_settleAnswered bm_Ledger_settleAnswered 10 (some .int) { frames := 3, cells := 0, slots := 0, locals := 69 } G b0 176 (zp_p G b0 S) [.ref (b0 + zp_o 2 i 0), .ref (b0 + zp_o 2 o 0), .int (nI c), .int (nI (j + 1)), .int h] (zw_Qi G b0 176 (zp_p G b0 (zu_Ledger_settleAnswered S i o c j h)) (zr_Ledger_settleAnswered S i o c j h)) := by
  refine zw_of (by decide) (Nat.le_of_ble_eq_true rfl) ?_
  intro p e s m below meth cx ls F hr hlk hE hP hS hl
  have hl : lv_has ls 10 [(0, .ref (b0 + zp_o 2 i 0)), (1, .ref (b0 + zp_o 2 o 0)), (2, .int (nI c)), (3, .int (nI (j + 1))), (4, .int h)] := hl
  refine lv_aload_n F.1 F.2.1 dd_Ledger_settleAnswered_0 rfl (lv_at hl 0 rfl) ?_
  refine zc_gF (t := 2) (i := i) (j := 0) F hE hP ⟨by decide, (show i < 2 by omega), (show 0 < 1 by omega)⟩ rfl rfl zi_Ledger 5 (by decide) rfl wf_Ledger_42 rfl dd_Ledger_settleAnswered_1 ?_
  refine lv_iload_n F.1 F.2.1 dd_Ledger_settleAnswered_4 rfl (lv_at hl 2 rfl) ?_
  refine zc_aald (t := 17) (i := i) (j := 0) (k := c) (N := 3) (z := 4) (a := (b0 + zp_o 18 i c)) F hE hP ⟨by decide, (show i < 2 by omega), (show 0 < 1 by omega)⟩ rfl rfl rfl (by omega) (by decide) rfl dd_Ledger_settleAnswered_5 ?_
  refine lv_astore F.1 F.2.1 dd_Ledger_settleAnswered_6 hl (by decide) (lv' := [(5, .ref (b0 + zp_o 18 i c)), (0, .ref (b0 + zp_o 2 i 0)), (1, .ref (b0 + zp_o 2 o 0)), (2, .int (nI c)), (3, .int (nI (j + 1))), (4, .int h)]) rfl (fun ls hl => ?_)
  refine lv_aload_n F.1 F.2.1 dd_Ledger_settleAnswered_8 rfl (lv_at hl 1 rfl) ?_
  refine lv_iload_n F.1 F.2.1 dd_Ledger_settleAnswered_9 rfl (lv_at hl 3 rfl) ?_
  refine zw_goi (zw_rV F hE hP (zc_Ledger_stateOf lc G b0 S i c (by first | omega | assumption) (by first | omega | assumption)) zk_Ledger_stateOf za_Ledger_stateOf zb_Ledger_stateOf wl_Ledger_96 ⟨rfl, rfl, Nat.le_of_ble_eq_true rfl, Nat.le_of_ble_eq_true rfl⟩ (zc_recv (t := 2) (i := i) (j := 0) hE hP ⟨by decide, (show i < 2 by omega), (show 0 < 1 by omega)⟩ rfl rfl) hl.1 rfl (Nat.le_of_ble_eq_true rfl) ⟨Nat.zero_le _, Nat.zero_le _⟩ dd_Ledger_settleAnswered_10) hS (fun _ h => h) (fun H locs hP _ _ hS => ?_)
  refine lv_iconst (v := nI 3) F.1 F.2.1 dd_Ledger_settleAnswered_13 (by decide) ?_
  refine lv_icmp_eq F.1 F.2.1 dd_Ledger_settleAnswered_14 (tgt := 20) rfl (fun h14 => ?_) (fun h14 => ?_)
  · refine lv_aload_n F.1 F.2.1 dd_Ledger_settleAnswered_20 rfl (lv_at hl 1 rfl) ?_
    refine lv_iload_n F.1 F.2.1 dd_Ledger_settleAnswered_21 rfl (lv_at hl 3 rfl) ?_
    refine zw_goi (zw_rV F hE hP (zc_Ledger_isOrdered lc G b0 S i c (by first | omega | assumption) (by first | omega | assumption)) zk_Ledger_isOrdered za_Ledger_isOrdered zb_Ledger_isOrdered wl_Ledger_172 ⟨rfl, rfl, Nat.le_of_ble_eq_true rfl, Nat.le_of_ble_eq_true rfl⟩ (zc_recv (t := 2) (i := i) (j := 0) hE hP ⟨by decide, (show i < 2 by omega), (show 0 < 1 by omega)⟩ rfl rfl) hl.1 rfl (Nat.le_of_ble_eq_true rfl) ⟨Nat.zero_le _, Nat.zero_le _⟩ dd_Ledger_settleAnswered_22) hS (fun _ h => h) (fun H locs hP _ _ hS => ?_)
    refine zn_beq F dd_Ledger_settleAnswered_25 (tgt := 37) rfl (fun h25 => ?_) (fun h25 => ?_)
    · refine lv_iconst (v := nI 1) F.1 F.2.1 dd_Ledger_settleAnswered_37 (by decide) ?_
      refine lv_goto F.1 F.2.1 dd_Ledger_settleAnswered_38 (tgt := 42) rfl ?_
      refine lv_istore F.1 F.2.1 dd_Ledger_settleAnswered_42 hl (by decide) (lv' := [(6, .int (nI 1)), (5, .ref (b0 + zp_o 18 i c)), (0, .ref (b0 + zp_o 2 i 0)), (1, .ref (b0 + zp_o 2 o 0)), (2, .int (nI c)), (3, .int (nI (j + 1))), (4, .int h)]) rfl (fun ls hl => ?_)
      refine lv_aload F.1 F.2.1 dd_Ledger_settleAnswered_44 (lv_at hl 1 rfl) ?_
      refine zc_gN (t := 18) (i := i) (j := c) F hE hP ⟨by decide, (show i < 2 by omega), (show c < 3 by omega)⟩ rfl rfl zi_End 0 (by decide) rfl wf_Ledger_121 rfl dd_Ledger_settleAnswered_46 ?_
      refine lv_iload_n F.1 F.2.1 dd_Ledger_settleAnswered_49 rfl (lv_at hl 5 rfl) ?_
      refine lv_iconst (v := nI 1) F.1 F.2.1 dd_Ledger_settleAnswered_50 (by decide) ?_
      refine zn_isub F dd_Ledger_settleAnswered_51 (by omega) ?_
      refine zn_top (y := nI j) (congrArg nI (by omega)) ?_
      refine zc_aald (t := 19) (i := i) (j := c) (k := j) (N := 12) (z := 5) (a := (b0 + zp_o 20 i (12 * c + j))) F hE hP ⟨by decide, (show i < 2 by omega), (show c < 3 by omega)⟩ rfl rfl rfl (by omega) (by decide) rfl dd_Ledger_settleAnswered_52 ?_
      refine zc_gN (t := 20) (i := i) (j := 12 * c + j) F hE hP ⟨by decide, (show i < 2 by omega), (show 12 * c + j < 36 by omega)⟩ rfl rfl zi_Packet 6 (by decide) rfl wf_Ledger_187 rfl dd_Ledger_settleAnswered_53 ?_
      refine lv_if_ne F.1 F.2.1 dd_Ledger_settleAnswered_56 (tgt := 64) rfl (fun h56 => ?_) (fun h56 => ?_)
      · refine lv_bipush (v := (-8)) F.1 F.2.1 dd_Ledger_settleAnswered_64 (by decide) ?_
        exact zw_iret F hr hlk hP hS (congrArg (zp_p G b0) (by rw [zu_Ledger_settleAnswered, if_pos h14, if_neg h25, if_neg h56])) (by rw [zr_Ledger_settleAnswered, if_pos h14, if_neg h25, if_neg h56]) dd_Ledger_settleAnswered_66
      · refine lv_iload F.1 F.2.1 dd_Ledger_settleAnswered_59 (lv_at hl 0 rfl) ?_
        refine lv_if_ne F.1 F.2.1 dd_Ledger_settleAnswered_61 (tgt := 67) rfl (fun h61 => ?_) (fun h61 => absurd h61 (by decide))
        refine lv_iload_n F.1 F.2.1 dd_Ledger_settleAnswered_67 rfl (lv_at hl 4 rfl) ?_
        refine lv_iload_n F.1 F.2.1 dd_Ledger_settleAnswered_68 rfl (lv_at hl 5 rfl) ?_
        refine zw_goi (zw_rS F hE hP (zc_Store_answerSlot lc G b0 S c j) zk_Store_answerSlot za_Store_answerSlot wl_Ledger_181 ⟨rfl, rfl, Nat.le_of_ble_eq_true rfl, Nat.le_of_ble_eq_true rfl⟩ hl.1 rfl (Nat.le_of_ble_eq_true rfl) ⟨Nat.zero_le _, Nat.zero_le _⟩ dd_Ledger_settleAnswered_69) hS (fun _ h => h) (fun H locs hP _ _ hS => ?_)
        refine lv_istore F.1 F.2.1 dd_Ledger_settleAnswered_72 hl (by decide) (lv' := [(7, .int (nI (78 + 12 * c + j))), (6, .int (nI 1)), (5, .ref (b0 + zp_o 18 i c)), (0, .ref (b0 + zp_o 2 i 0)), (1, .ref (b0 + zp_o 2 o 0)), (2, .int (nI c)), (3, .int (nI (j + 1))), (4, .int h)]) rfl (fun ls hl => ?_)
        refine lv_aload_n F.1 F.2.1 dd_Ledger_settleAnswered_74 rfl (lv_at hl 4 rfl) ?_
        refine zc_gF (t := 2) (i := o) (j := 0) F hE hP ⟨by decide, (show o < 2 by omega), (show 0 < 1 by omega)⟩ rfl rfl zi_Ledger 0 (by decide) rfl wf_Ledger_12 rfl dd_Ledger_settleAnswered_75 ?_
        refine lv_iload F.1 F.2.1 dd_Ledger_settleAnswered_78 (lv_at hl 0 rfl) ?_
        refine zw_goi (zw_rV F hE hP (zc_Store_has lc G b0 S o 0 (78 + 12 * c + j) (by first | omega | assumption) (by first | omega | assumption) (by first | omega | assumption) (hB _ _ _)) zk_Store_has za_Store_has zb_Store_has wl_Ledger_89 ⟨rfl, rfl, Nat.le_of_ble_eq_true rfl, Nat.le_of_ble_eq_true rfl⟩ (zc_recv (t := 3) (i := o) (j := 0) hE hP ⟨by decide, (show o < 2 by omega), (show 0 < 9 by omega)⟩ rfl rfl) hl.1 rfl (Nat.le_of_ble_eq_true rfl) ⟨Nat.zero_le _, Nat.zero_le _⟩ dd_Ledger_settleAnswered_80) hS (fun _ h => h) (fun H locs hP _ _ hS => ?_)
        refine lv_if_ne F.1 F.2.1 dd_Ledger_settleAnswered_83 (tgt := 89) rfl (fun h83 => ?_) (fun h83 => ?_)
        · refine lv_aload_n F.1 F.2.1 dd_Ledger_settleAnswered_89 rfl (lv_at hl 4 rfl) ?_
          refine zc_gF (t := 2) (i := o) (j := 0) F hE hP ⟨by decide, (show o < 2 by omega), (show 0 < 1 by omega)⟩ rfl rfl zi_Ledger 0 (by decide) rfl wf_Ledger_12 rfl dd_Ledger_settleAnswered_90 ?_
          refine lv_iload F.1 F.2.1 dd_Ledger_settleAnswered_93 (lv_at hl 0 rfl) ?_
          refine zw_goi (zw_rV F hE hP (zc_Store_valueIn lc G b0 S o 0 (78 + 12 * c + j) (by first | omega | assumption) (by first | omega | assumption) (by first | omega | assumption)) zk_Store_valueIn za_Store_valueIn zb_Store_valueIn wl_Ledger_67 ⟨rfl, rfl, Nat.le_of_ble_eq_true rfl, Nat.le_of_ble_eq_true rfl⟩ (zc_recv (t := 3) (i := o) (j := 0) hE hP ⟨by decide, (show o < 2 by omega), (show 0 < 9 by omega)⟩ rfl rfl) hl.1 rfl (Nat.le_of_ble_eq_true rfl) ⟨Nat.zero_le _, Nat.zero_le _⟩ dd_Ledger_settleAnswered_95) hS (fun _ h => h) (fun H locs hP _ _ hS => ?_)
          refine lv_istore F.1 F.2.1 dd_Ledger_settleAnswered_98 hl (by decide) (lv' := [(8, .int (S 4 o 0 (78 + 12 * c + j))), (7, .int (nI (78 + 12 * c + j))), (6, .int (nI 1)), (5, .ref (b0 + zp_o 18 i c)), (0, .ref (b0 + zp_o 2 i 0)), (1, .ref (b0 + zp_o 2 o 0)), (2, .int (nI c)), (3, .int (nI (j + 1))), (4, .int h)]) rfl (fun ls hl => ?_)
          refine lv_aload_n F.1 F.2.1 dd_Ledger_settleAnswered_100 rfl (lv_at hl 4 rfl) ?_
          refine lv_aload_n F.1 F.2.1 dd_Ledger_settleAnswered_101 rfl (lv_at hl 5 rfl) ?_
          refine lv_iload F.1 F.2.1 dd_Ledger_settleAnswered_102 (lv_at hl 8 rfl) ?_
          refine lv_iload F.1 F.2.1 dd_Ledger_settleAnswered_104 (lv_at hl 1 rfl) ?_
          refine lv_iload F.1 F.2.1 dd_Ledger_settleAnswered_106 (lv_at hl 0 rfl) ?_
          refine zw_goi (zw_rV F hE hP (zc_Ledger_proveValue lc G b0 S i o h (78 + 12 * c + j) (S 4 o 0 (78 + 12 * c + j)) (by first | omega | assumption) (by first | omega | assumption) (by first | omega | assumption) (by assumption)) zk_Ledger_proveValue za_Ledger_proveValue zb_Ledger_proveValue wl_Ledger_92 ⟨rfl, rfl, Nat.le_of_ble_eq_true rfl, Nat.le_of_ble_eq_true rfl⟩ (zc_recv (t := 2) (i := i) (j := 0) hE hP ⟨by decide, (show i < 2 by omega), (show 0 < 1 by omega)⟩ rfl rfl) hl.1 rfl (Nat.le_of_ble_eq_true rfl) ⟨Nat.zero_le _, Nat.zero_le _⟩ dd_Ledger_settleAnswered_108) hS (fun _ h => h) (fun H locs hP _ _ hS => ?_)
          refine lv_istore F.1 F.2.1 dd_Ledger_settleAnswered_111 hl (by decide) (lv' := [(9, .int (zs_pv S i o h (78 + 12 * c + j) (S 4 o 0 (78 + 12 * c + j)))), (8, .int (S 4 o 0 (78 + 12 * c + j))), (7, .int (nI (78 + 12 * c + j))), (6, .int (nI 1)), (5, .ref (b0 + zp_o 18 i c)), (0, .ref (b0 + zp_o 2 i 0)), (1, .ref (b0 + zp_o 2 o 0)), (2, .int (nI c)), (3, .int (nI (j + 1))), (4, .int h)]) rfl (fun ls hl => ?_)
          refine lv_iload F.1 F.2.1 dd_Ledger_settleAnswered_113 (lv_at hl 0 rfl) ?_
          refine lv_if_eq F.1 F.2.1 dd_Ledger_settleAnswered_115 (tgt := 121) rfl (fun h115 => ?_) (fun h115 => ?_)
          · refine lv_aload_n F.1 F.2.1 dd_Ledger_settleAnswered_121 rfl (lv_at hl 5 rfl) ?_
            refine lv_iload_n F.1 F.2.1 dd_Ledger_settleAnswered_122 rfl (lv_at hl 7 rfl) ?_
            refine zw_goi (zw_rV F hE hP (zc_Ledger_isOrdered lc G b0 S i c (by first | omega | assumption) (by first | omega | assumption)) zk_Ledger_isOrdered za_Ledger_isOrdered zb_Ledger_isOrdered wl_Ledger_172 ⟨rfl, rfl, Nat.le_of_ble_eq_true rfl, Nat.le_of_ble_eq_true rfl⟩ (zc_recv (t := 2) (i := i) (j := 0) hE hP ⟨by decide, (show i < 2 by omega), (show 0 < 1 by omega)⟩ rfl rfl) hl.1 rfl (Nat.le_of_ble_eq_true rfl) ⟨Nat.zero_le _, Nat.zero_le _⟩ dd_Ledger_settleAnswered_123) hS (fun _ h => h) (fun H locs hP _ _ hS => ?_)
            refine zn_beq F dd_Ledger_settleAnswered_126 (tgt := 137) rfl (fun h126 => ?_) (fun h126 => ?_)
            · refine lv_aload_n F.1 F.2.1 dd_Ledger_settleAnswered_137 rfl (lv_at hl 5 rfl) ?_
              refine lv_iload_n F.1 F.2.1 dd_Ledger_settleAnswered_138 rfl (lv_at hl 7 rfl) ?_
              refine lv_iload_n F.1 F.2.1 dd_Ledger_settleAnswered_139 rfl (lv_at hl 8 rfl) ?_
              refine lv_iload F.1 F.2.1 dd_Ledger_settleAnswered_140 (lv_at hl 1 rfl) ?_
              refine zw_gov (zw_rV F hE hP (zc_Ledger_settle lc G b0 S i c j (S 4 o 0 (78 + 12 * c + j)) (by first | omega | assumption) (by first | omega | assumption) (by first | omega | assumption) (by first | exact hpk | simpa [zs_u] using hpk)) zk_Ledger_settle za_Ledger_settle zb_Ledger_settle wl_Ledger_190 ⟨rfl, rfl, Nat.le_of_ble_eq_true rfl, Nat.le_of_ble_eq_true rfl⟩ (zc_recv (t := 2) (i := i) (j := 0) hE hP ⟨by decide, (show i < 2 by omega), (show 0 < 1 by omega)⟩ rfl rfl) hl.1 rfl (Nat.le_of_ble_eq_true rfl) ⟨Nat.zero_le _, Nat.zero_le _⟩ dd_Ledger_settleAnswered_142) hS (fun _ h => h) (fun H locs hP _ _ hS => ?_)
              refine lv_iload F.1 F.2.1 dd_Ledger_settleAnswered_145 (lv_at hl 1 rfl) ?_
              exact zw_iret F hr hlk hP hS (congrArg (zp_p G b0) (by rw [zu_Ledger_settleAnswered, if_pos h14, if_neg h25, if_pos h56, if_neg h83, if_pos h115, if_neg h126])) (by rw [zr_Ledger_settleAnswered, if_pos h14, if_neg h25, if_pos h56, if_neg h83, if_pos h115, if_neg h126]) dd_Ledger_settleAnswered_147
            · refine lv_aload F.1 F.2.1 dd_Ledger_settleAnswered_129 (lv_at hl 4 rfl) ?_
              refine lv_iload_n F.1 F.2.1 dd_Ledger_settleAnswered_131 rfl (lv_at hl 8 rfl) ?_
              refine lv_iconst (v := nI 1) F.1 F.2.1 dd_Ledger_settleAnswered_132 (by decide) ?_
              refine zn_iadd F dd_Ledger_settleAnswered_133 ?_
              refine zc_pN (t := 18) (i := i) (j := c) (kf := 1) F hE hP hS (fun _ h => h) ⟨by decide, (show i < 2 by omega), (show c < 3 by omega)⟩ rfl rfl zi_End zy_End zj_End zl_End 2 (by decide) rfl rfl wf_Ledger_184 (by decide +kernel) (Nat.le_of_ble_eq_true rfl) rfl dd_Ledger_settleAnswered_134 (fun H locs hP hS => ?_)
              refine lv_aload_n F.1 F.2.1 dd_Ledger_settleAnswered_137 rfl (lv_at hl 5 rfl) ?_
              refine lv_iload_n F.1 F.2.1 dd_Ledger_settleAnswered_138 rfl (lv_at hl 7 rfl) ?_
              refine lv_iload_n F.1 F.2.1 dd_Ledger_settleAnswered_139 rfl (lv_at hl 8 rfl) ?_
              refine lv_iload F.1 F.2.1 dd_Ledger_settleAnswered_140 (lv_at hl 1 rfl) ?_
              refine zw_gov (zw_rV F hE hP (zc_Ledger_settle lc G b0 (zs_u S 18 i c 1 (nI ((j + 1) + 1))) i c j (S 4 o 0 (78 + 12 * c + j)) (by first | omega | assumption) (by first | omega | assumption) (by first | omega | assumption) (by first | exact hpk | simpa [zs_u] using hpk)) zk_Ledger_settle za_Ledger_settle zb_Ledger_settle wl_Ledger_190 ⟨rfl, rfl, Nat.le_of_ble_eq_true rfl, Nat.le_of_ble_eq_true rfl⟩ (zc_recv (t := 2) (i := i) (j := 0) hE hP ⟨by decide, (show i < 2 by omega), (show 0 < 1 by omega)⟩ rfl rfl) hl.1 rfl (Nat.le_of_ble_eq_true rfl) ⟨Nat.zero_le _, Nat.zero_le _⟩ dd_Ledger_settleAnswered_142) hS (fun _ h => h) (fun H locs hP _ _ hS => ?_)
              refine lv_iload F.1 F.2.1 dd_Ledger_settleAnswered_145 (lv_at hl 1 rfl) ?_
              exact zw_iret F hr hlk hP hS (congrArg (zp_p G b0) (by rw [zu_Ledger_settleAnswered, if_pos h14, if_neg h25, if_pos h56, if_neg h83, if_pos h115, if_pos h126])) (by rw [zr_Ledger_settleAnswered, if_pos h14, if_neg h25, if_pos h56, if_neg h83, if_pos h115, if_pos h126]) dd_Ledger_settleAnswered_147
          · refine lv_iload F.1 F.2.1 dd_Ledger_settleAnswered_118 (lv_at hl 0 rfl) ?_
            exact zw_iret F hr hlk hP hS (congrArg (zp_p G b0) (by rw [zu_Ledger_settleAnswered, if_pos h14, if_neg h25, if_pos h56, if_neg h83, if_neg h115])) (by rw [zr_Ledger_settleAnswered, if_pos h14, if_neg h25, if_pos h56, if_neg h83, if_neg h115]) dd_Ledger_settleAnswered_120
        · refine lv_bipush (v := (-5)) F.1 F.2.1 dd_Ledger_settleAnswered_86 (by decide) ?_
          exact zw_iret F hr hlk hP hS (congrArg (zp_p G b0) (by rw [zu_Ledger_settleAnswered, if_pos h14, if_neg h25, if_pos h56, if_pos h83])) (by rw [zr_Ledger_settleAnswered, if_pos h14, if_neg h25, if_pos h56, if_pos h83]) dd_Ledger_settleAnswered_88
    · refine lv_iload_n F.1 F.2.1 dd_Ledger_settleAnswered_28 rfl (lv_at hl 4 rfl) ?_
      refine lv_aload F.1 F.2.1 dd_Ledger_settleAnswered_29 (lv_at hl 0 rfl) ?_
      refine zc_gN (t := 18) (i := i) (j := c) F hE hP ⟨by decide, (show i < 2 by omega), (show c < 3 by omega)⟩ rfl rfl zi_End 2 (by decide) rfl wf_Ledger_184 rfl dd_Ledger_settleAnswered_31 ?_
      refine lv_icmp_ne F.1 F.2.1 dd_Ledger_settleAnswered_34 (tgt := 41) rfl (fun h34 => ?_) (fun h34 => ?_)
      · refine lv_iconst (v := nI 0) F.1 F.2.1 dd_Ledger_settleAnswered_41 (by decide) ?_
        refine lv_istore F.1 F.2.1 dd_Ledger_settleAnswered_42 hl (by decide) (lv' := [(6, .int (nI 0)), (5, .ref (b0 + zp_o 18 i c)), (0, .ref (b0 + zp_o 2 i 0)), (1, .ref (b0 + zp_o 2 o 0)), (2, .int (nI c)), (3, .int (nI (j + 1))), (4, .int h)]) rfl (fun ls hl => ?_)
        refine lv_aload F.1 F.2.1 dd_Ledger_settleAnswered_44 (lv_at hl 1 rfl) ?_
        refine zc_gN (t := 18) (i := i) (j := c) F hE hP ⟨by decide, (show i < 2 by omega), (show c < 3 by omega)⟩ rfl rfl zi_End 0 (by decide) rfl wf_Ledger_121 rfl dd_Ledger_settleAnswered_46 ?_
        refine lv_iload_n F.1 F.2.1 dd_Ledger_settleAnswered_49 rfl (lv_at hl 5 rfl) ?_
        refine lv_iconst (v := nI 1) F.1 F.2.1 dd_Ledger_settleAnswered_50 (by decide) ?_
        refine zn_isub F dd_Ledger_settleAnswered_51 (by omega) ?_
        refine zn_top (y := nI j) (congrArg nI (by omega)) ?_
        refine zc_aald (t := 19) (i := i) (j := c) (k := j) (N := 12) (z := 5) (a := (b0 + zp_o 20 i (12 * c + j))) F hE hP ⟨by decide, (show i < 2 by omega), (show c < 3 by omega)⟩ rfl rfl rfl (by omega) (by decide) rfl dd_Ledger_settleAnswered_52 ?_
        refine zc_gN (t := 20) (i := i) (j := 12 * c + j) F hE hP ⟨by decide, (show i < 2 by omega), (show 12 * c + j < 36 by omega)⟩ rfl rfl zi_Packet 6 (by decide) rfl wf_Ledger_187 rfl dd_Ledger_settleAnswered_53 ?_
        refine lv_if_ne F.1 F.2.1 dd_Ledger_settleAnswered_56 (tgt := 64) rfl (fun h56 => ?_) (fun h56 => ?_)
        · refine lv_bipush (v := (-8)) F.1 F.2.1 dd_Ledger_settleAnswered_64 (by decide) ?_
          exact zw_iret F hr hlk hP hS (congrArg (zp_p G b0) (by rw [zu_Ledger_settleAnswered, if_pos h14, if_pos h25, if_neg h34, if_neg h56])) (by rw [zr_Ledger_settleAnswered, if_pos h14, if_pos h25, if_neg h34, if_neg h56]) dd_Ledger_settleAnswered_66
        · refine lv_iload F.1 F.2.1 dd_Ledger_settleAnswered_59 (lv_at hl 0 rfl) ?_
          refine lv_if_ne F.1 F.2.1 dd_Ledger_settleAnswered_61 (tgt := 67) rfl (fun h61 => absurd h61 (by decide)) (fun h61 => ?_)
          refine lv_bipush (v := (-8)) F.1 F.2.1 dd_Ledger_settleAnswered_64 (by decide) ?_
          exact zw_iret F hr hlk hP hS (congrArg (zp_p G b0) (by rw [zu_Ledger_settleAnswered, if_pos h14, if_pos h25, if_neg h34, if_pos h56])) (by rw [zr_Ledger_settleAnswered, if_pos h14, if_pos h25, if_neg h34, if_pos h56]) dd_Ledger_settleAnswered_66
      · refine lv_iconst (v := nI 1) F.1 F.2.1 dd_Ledger_settleAnswered_37 (by decide) ?_
        refine lv_goto F.1 F.2.1 dd_Ledger_settleAnswered_38 (tgt := 42) rfl ?_
        refine lv_istore F.1 F.2.1 dd_Ledger_settleAnswered_42 hl (by decide) (lv' := [(6, .int (nI 1)), (5, .ref (b0 + zp_o 18 i c)), (0, .ref (b0 + zp_o 2 i 0)), (1, .ref (b0 + zp_o 2 o 0)), (2, .int (nI c)), (3, .int (nI (j + 1))), (4, .int h)]) rfl (fun ls hl => ?_)
        refine lv_aload F.1 F.2.1 dd_Ledger_settleAnswered_44 (lv_at hl 1 rfl) ?_
        refine zc_gN (t := 18) (i := i) (j := c) F hE hP ⟨by decide, (show i < 2 by omega), (show c < 3 by omega)⟩ rfl rfl zi_End 0 (by decide) rfl wf_Ledger_121 rfl dd_Ledger_settleAnswered_46 ?_
        refine lv_iload_n F.1 F.2.1 dd_Ledger_settleAnswered_49 rfl (lv_at hl 5 rfl) ?_
        refine lv_iconst (v := nI 1) F.1 F.2.1 dd_Ledger_settleAnswered_50 (by decide) ?_
        refine zn_isub F dd_Ledger_settleAnswered_51 (by omega) ?_
        refine zn_top (y := nI j) (congrArg nI (by omega)) ?_
        refine zc_aald (t := 19) (i := i) (j := c) (k := j) (N := 12) (z := 5) (a := (b0 + zp_o 20 i (12 * c + j))) F hE hP ⟨by decide, (show i < 2 by omega), (show c < 3 by omega)⟩ rfl rfl rfl (by omega) (by decide) rfl dd_Ledger_settleAnswered_52 ?_
        refine zc_gN (t := 20) (i := i) (j := 12 * c + j) F hE hP ⟨by decide, (show i < 2 by omega), (show 12 * c + j < 36 by omega)⟩ rfl rfl zi_Packet 6 (by decide) rfl wf_Ledger_187 rfl dd_Ledger_settleAnswered_53 ?_
        refine lv_if_ne F.1 F.2.1 dd_Ledger_settleAnswered_56 (tgt := 64) rfl (fun h56 => ?_) (fun h56 => ?_)
        · refine lv_bipush (v := (-8)) F.1 F.2.1 dd_Ledger_settleAnswered_64 (by decide) ?_
          exact zw_iret F hr hlk hP hS (congrArg (zp_p G b0) (by rw [zu_Ledger_settleAnswered, if_pos h14, if_pos h25, if_pos h34, if_neg h56])) (by rw [zr_Ledger_settleAnswered, if_pos h14, if_pos h25, if_pos h34, if_neg h56]) dd_Ledger_settleAnswered_66
        · refine lv_iload F.1 F.2.1 dd_Ledger_settleAnswered_59 (lv_at hl 0 rfl) ?_
          refine lv_if_ne F.1 F.2.1 dd_Ledger_settleAnswered_61 (tgt := 67) rfl (fun h61 => ?_) (fun h61 => absurd h61 (by decide))
          refine lv_iload_n F.1 F.2.1 dd_Ledger_settleAnswered_67 rfl (lv_at hl 4 rfl) ?_
          refine lv_iload_n F.1 F.2.1 dd_Ledger_settleAnswered_68 rfl (lv_at hl 5 rfl) ?_
          refine zw_goi (zw_rS F hE hP (zc_Store_answerSlot lc G b0 S c j) zk_Store_answerSlot za_Store_answerSlot wl_Ledger_181 ⟨rfl, rfl, Nat.le_of_ble_eq_true rfl, Nat.le_of_ble_eq_true rfl⟩ hl.1 rfl (Nat.le_of_ble_eq_true rfl) ⟨Nat.zero_le _, Nat.zero_le _⟩ dd_Ledger_settleAnswered_69) hS (fun _ h => h) (fun H locs hP _ _ hS => ?_)
          refine lv_istore F.1 F.2.1 dd_Ledger_settleAnswered_72 hl (by decide) (lv' := [(7, .int (nI (78 + 12 * c + j))), (6, .int (nI 1)), (5, .ref (b0 + zp_o 18 i c)), (0, .ref (b0 + zp_o 2 i 0)), (1, .ref (b0 + zp_o 2 o 0)), (2, .int (nI c)), (3, .int (nI (j + 1))), (4, .int h)]) rfl (fun ls hl => ?_)
          refine lv_aload_n F.1 F.2.1 dd_Ledger_settleAnswered_74 rfl (lv_at hl 4 rfl) ?_
          refine zc_gF (t := 2) (i := o) (j := 0) F hE hP ⟨by decide, (show o < 2 by omega), (show 0 < 1 by omega)⟩ rfl rfl zi_Ledger 0 (by decide) rfl wf_Ledger_12 rfl dd_Ledger_settleAnswered_75 ?_
          refine lv_iload F.1 F.2.1 dd_Ledger_settleAnswered_78 (lv_at hl 0 rfl) ?_
          refine zw_goi (zw_rV F hE hP (zc_Store_has lc G b0 S o 0 (78 + 12 * c + j) (by first | omega | assumption) (by first | omega | assumption) (by first | omega | assumption) (hB _ _ _)) zk_Store_has za_Store_has zb_Store_has wl_Ledger_89 ⟨rfl, rfl, Nat.le_of_ble_eq_true rfl, Nat.le_of_ble_eq_true rfl⟩ (zc_recv (t := 3) (i := o) (j := 0) hE hP ⟨by decide, (show o < 2 by omega), (show 0 < 9 by omega)⟩ rfl rfl) hl.1 rfl (Nat.le_of_ble_eq_true rfl) ⟨Nat.zero_le _, Nat.zero_le _⟩ dd_Ledger_settleAnswered_80) hS (fun _ h => h) (fun H locs hP _ _ hS => ?_)
          refine lv_if_ne F.1 F.2.1 dd_Ledger_settleAnswered_83 (tgt := 89) rfl (fun h83 => ?_) (fun h83 => ?_)
          · refine lv_aload_n F.1 F.2.1 dd_Ledger_settleAnswered_89 rfl (lv_at hl 4 rfl) ?_
            refine zc_gF (t := 2) (i := o) (j := 0) F hE hP ⟨by decide, (show o < 2 by omega), (show 0 < 1 by omega)⟩ rfl rfl zi_Ledger 0 (by decide) rfl wf_Ledger_12 rfl dd_Ledger_settleAnswered_90 ?_
            refine lv_iload F.1 F.2.1 dd_Ledger_settleAnswered_93 (lv_at hl 0 rfl) ?_
            refine zw_goi (zw_rV F hE hP (zc_Store_valueIn lc G b0 S o 0 (78 + 12 * c + j) (by first | omega | assumption) (by first | omega | assumption) (by first | omega | assumption)) zk_Store_valueIn za_Store_valueIn zb_Store_valueIn wl_Ledger_67 ⟨rfl, rfl, Nat.le_of_ble_eq_true rfl, Nat.le_of_ble_eq_true rfl⟩ (zc_recv (t := 3) (i := o) (j := 0) hE hP ⟨by decide, (show o < 2 by omega), (show 0 < 9 by omega)⟩ rfl rfl) hl.1 rfl (Nat.le_of_ble_eq_true rfl) ⟨Nat.zero_le _, Nat.zero_le _⟩ dd_Ledger_settleAnswered_95) hS (fun _ h => h) (fun H locs hP _ _ hS => ?_)
            refine lv_istore F.1 F.2.1 dd_Ledger_settleAnswered_98 hl (by decide) (lv' := [(8, .int (S 4 o 0 (78 + 12 * c + j))), (7, .int (nI (78 + 12 * c + j))), (6, .int (nI 1)), (5, .ref (b0 + zp_o 18 i c)), (0, .ref (b0 + zp_o 2 i 0)), (1, .ref (b0 + zp_o 2 o 0)), (2, .int (nI c)), (3, .int (nI (j + 1))), (4, .int h)]) rfl (fun ls hl => ?_)
            refine lv_aload_n F.1 F.2.1 dd_Ledger_settleAnswered_100 rfl (lv_at hl 4 rfl) ?_
            refine lv_aload_n F.1 F.2.1 dd_Ledger_settleAnswered_101 rfl (lv_at hl 5 rfl) ?_
            refine lv_iload F.1 F.2.1 dd_Ledger_settleAnswered_102 (lv_at hl 8 rfl) ?_
            refine lv_iload F.1 F.2.1 dd_Ledger_settleAnswered_104 (lv_at hl 1 rfl) ?_
            refine lv_iload F.1 F.2.1 dd_Ledger_settleAnswered_106 (lv_at hl 0 rfl) ?_
            refine zw_goi (zw_rV F hE hP (zc_Ledger_proveValue lc G b0 S i o h (78 + 12 * c + j) (S 4 o 0 (78 + 12 * c + j)) (by first | omega | assumption) (by first | omega | assumption) (by first | omega | assumption) (by assumption)) zk_Ledger_proveValue za_Ledger_proveValue zb_Ledger_proveValue wl_Ledger_92 ⟨rfl, rfl, Nat.le_of_ble_eq_true rfl, Nat.le_of_ble_eq_true rfl⟩ (zc_recv (t := 2) (i := i) (j := 0) hE hP ⟨by decide, (show i < 2 by omega), (show 0 < 1 by omega)⟩ rfl rfl) hl.1 rfl (Nat.le_of_ble_eq_true rfl) ⟨Nat.zero_le _, Nat.zero_le _⟩ dd_Ledger_settleAnswered_108) hS (fun _ h => h) (fun H locs hP _ _ hS => ?_)
            refine lv_istore F.1 F.2.1 dd_Ledger_settleAnswered_111 hl (by decide) (lv' := [(9, .int (zs_pv S i o h (78 + 12 * c + j) (S 4 o 0 (78 + 12 * c + j)))), (8, .int (S 4 o 0 (78 + 12 * c + j))), (7, .int (nI (78 + 12 * c + j))), (6, .int (nI 1)), (5, .ref (b0 + zp_o 18 i c)), (0, .ref (b0 + zp_o 2 i 0)), (1, .ref (b0 + zp_o 2 o 0)), (2, .int (nI c)), (3, .int (nI (j + 1))), (4, .int h)]) rfl (fun ls hl => ?_)
            refine lv_iload F.1 F.2.1 dd_Ledger_settleAnswered_113 (lv_at hl 0 rfl) ?_
            refine lv_if_eq F.1 F.2.1 dd_Ledger_settleAnswered_115 (tgt := 121) rfl (fun h115 => ?_) (fun h115 => ?_)
            · refine lv_aload_n F.1 F.2.1 dd_Ledger_settleAnswered_121 rfl (lv_at hl 5 rfl) ?_
              refine lv_iload_n F.1 F.2.1 dd_Ledger_settleAnswered_122 rfl (lv_at hl 7 rfl) ?_
              refine zw_goi (zw_rV F hE hP (zc_Ledger_isOrdered lc G b0 S i c (by first | omega | assumption) (by first | omega | assumption)) zk_Ledger_isOrdered za_Ledger_isOrdered zb_Ledger_isOrdered wl_Ledger_172 ⟨rfl, rfl, Nat.le_of_ble_eq_true rfl, Nat.le_of_ble_eq_true rfl⟩ (zc_recv (t := 2) (i := i) (j := 0) hE hP ⟨by decide, (show i < 2 by omega), (show 0 < 1 by omega)⟩ rfl rfl) hl.1 rfl (Nat.le_of_ble_eq_true rfl) ⟨Nat.zero_le _, Nat.zero_le _⟩ dd_Ledger_settleAnswered_123) hS (fun _ h => h) (fun H locs hP _ _ hS => ?_)
              refine zn_beq F dd_Ledger_settleAnswered_126 (tgt := 137) rfl (fun h126 => ?_) (fun h126 => ?_)
              · refine lv_aload_n F.1 F.2.1 dd_Ledger_settleAnswered_137 rfl (lv_at hl 5 rfl) ?_
                refine lv_iload_n F.1 F.2.1 dd_Ledger_settleAnswered_138 rfl (lv_at hl 7 rfl) ?_
                refine lv_iload_n F.1 F.2.1 dd_Ledger_settleAnswered_139 rfl (lv_at hl 8 rfl) ?_
                refine lv_iload F.1 F.2.1 dd_Ledger_settleAnswered_140 (lv_at hl 1 rfl) ?_
                refine zw_gov (zw_rV F hE hP (zc_Ledger_settle lc G b0 S i c j (S 4 o 0 (78 + 12 * c + j)) (by first | omega | assumption) (by first | omega | assumption) (by first | omega | assumption) (by first | exact hpk | simpa [zs_u] using hpk)) zk_Ledger_settle za_Ledger_settle zb_Ledger_settle wl_Ledger_190 ⟨rfl, rfl, Nat.le_of_ble_eq_true rfl, Nat.le_of_ble_eq_true rfl⟩ (zc_recv (t := 2) (i := i) (j := 0) hE hP ⟨by decide, (show i < 2 by omega), (show 0 < 1 by omega)⟩ rfl rfl) hl.1 rfl (Nat.le_of_ble_eq_true rfl) ⟨Nat.zero_le _, Nat.zero_le _⟩ dd_Ledger_settleAnswered_142) hS (fun _ h => h) (fun H locs hP _ _ hS => ?_)
                refine lv_iload F.1 F.2.1 dd_Ledger_settleAnswered_145 (lv_at hl 1 rfl) ?_
                exact zw_iret F hr hlk hP hS (congrArg (zp_p G b0) (by rw [zu_Ledger_settleAnswered, if_pos h14, if_pos h25, if_pos h34, if_pos h56, if_neg h83, if_pos h115, if_neg h126])) (by rw [zr_Ledger_settleAnswered, if_pos h14, if_pos h25, if_pos h34, if_pos h56, if_neg h83, if_pos h115, if_neg h126]) dd_Ledger_settleAnswered_147
              · refine lv_aload F.1 F.2.1 dd_Ledger_settleAnswered_129 (lv_at hl 4 rfl) ?_
                refine lv_iload_n F.1 F.2.1 dd_Ledger_settleAnswered_131 rfl (lv_at hl 8 rfl) ?_
                refine lv_iconst (v := nI 1) F.1 F.2.1 dd_Ledger_settleAnswered_132 (by decide) ?_
                refine zn_iadd F dd_Ledger_settleAnswered_133 ?_
                refine zc_pN (t := 18) (i := i) (j := c) (kf := 1) F hE hP hS (fun _ h => h) ⟨by decide, (show i < 2 by omega), (show c < 3 by omega)⟩ rfl rfl zi_End zy_End zj_End zl_End 2 (by decide) rfl rfl wf_Ledger_184 (by decide +kernel) (Nat.le_of_ble_eq_true rfl) rfl dd_Ledger_settleAnswered_134 (fun H locs hP hS => ?_)
                refine lv_aload_n F.1 F.2.1 dd_Ledger_settleAnswered_137 rfl (lv_at hl 5 rfl) ?_
                refine lv_iload_n F.1 F.2.1 dd_Ledger_settleAnswered_138 rfl (lv_at hl 7 rfl) ?_
                refine lv_iload_n F.1 F.2.1 dd_Ledger_settleAnswered_139 rfl (lv_at hl 8 rfl) ?_
                refine lv_iload F.1 F.2.1 dd_Ledger_settleAnswered_140 (lv_at hl 1 rfl) ?_
                refine zw_gov (zw_rV F hE hP (zc_Ledger_settle lc G b0 (zs_u S 18 i c 1 (nI ((j + 1) + 1))) i c j (S 4 o 0 (78 + 12 * c + j)) (by first | omega | assumption) (by first | omega | assumption) (by first | omega | assumption) (by first | exact hpk | simpa [zs_u] using hpk)) zk_Ledger_settle za_Ledger_settle zb_Ledger_settle wl_Ledger_190 ⟨rfl, rfl, Nat.le_of_ble_eq_true rfl, Nat.le_of_ble_eq_true rfl⟩ (zc_recv (t := 2) (i := i) (j := 0) hE hP ⟨by decide, (show i < 2 by omega), (show 0 < 1 by omega)⟩ rfl rfl) hl.1 rfl (Nat.le_of_ble_eq_true rfl) ⟨Nat.zero_le _, Nat.zero_le _⟩ dd_Ledger_settleAnswered_142) hS (fun _ h => h) (fun H locs hP _ _ hS => ?_)
                refine lv_iload F.1 F.2.1 dd_Ledger_settleAnswered_145 (lv_at hl 1 rfl) ?_
                exact zw_iret F hr hlk hP hS (congrArg (zp_p G b0) (by rw [zu_Ledger_settleAnswered, if_pos h14, if_pos h25, if_pos h34, if_pos h56, if_neg h83, if_pos h115, if_pos h126])) (by rw [zr_Ledger_settleAnswered, if_pos h14, if_pos h25, if_pos h34, if_pos h56, if_neg h83, if_pos h115, if_pos h126]) dd_Ledger_settleAnswered_147
            · refine lv_iload F.1 F.2.1 dd_Ledger_settleAnswered_118 (lv_at hl 0 rfl) ?_
              exact zw_iret F hr hlk hP hS (congrArg (zp_p G b0) (by rw [zu_Ledger_settleAnswered, if_pos h14, if_pos h25, if_pos h34, if_pos h56, if_neg h83, if_neg h115])) (by rw [zr_Ledger_settleAnswered, if_pos h14, if_pos h25, if_pos h34, if_pos h56, if_neg h83, if_neg h115]) dd_Ledger_settleAnswered_120
          · refine lv_bipush (v := (-5)) F.1 F.2.1 dd_Ledger_settleAnswered_86 (by decide) ?_
            exact zw_iret F hr hlk hP hS (congrArg (zp_p G b0) (by rw [zu_Ledger_settleAnswered, if_pos h14, if_pos h25, if_pos h34, if_pos h56, if_pos h83])) (by rw [zr_Ledger_settleAnswered, if_pos h14, if_pos h25, if_pos h34, if_pos h56, if_pos h83]) dd_Ledger_settleAnswered_88
  · refine lv_bipush (v := (-2)) F.1 F.2.1 dd_Ledger_settleAnswered_17 (by decide) ?_
    exact zw_iret F hr hlk hP hS (congrArg (zp_p G b0) (by rw [zu_Ledger_settleAnswered, if_neg h14])) (by rw [zr_Ledger_settleAnswered, if_neg h14]) dd_Ledger_settleAnswered_19
end
