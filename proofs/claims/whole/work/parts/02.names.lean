def zw_WS : List Cond := lw_tbl.filter goodWord
theorem zw_mem {w : Cond} (i : Nat) (h : lw_tbl[i]? = some w) (hg : goodWord w = true) : w ∈ zw_WS := List.mem_filter.mpr ⟨List.mem_of_getElem? h, hg⟩
def zf_TL : u_T := fun k => match k with
  | 0 => ("TwinLedgers", "patience", "I", true)
  | _ => ("TwinLedgers", "ledgers", "[LTwinLedgers$Ledger;", true)
def zy_TL : Nat → FieldType := fun k => match k with
  | 0 => .int
  | _ => .array (.object "TwinLedgers$Ledger")
theorem zj_TL : ∀ k, k < 2 → parseFieldDescriptor (zf_TL k).2.2.1 = some (zy_TL k) := by decide +kernel
theorem zl_TL : ∀ a, a < 2 → ∀ b, b < 2 → a ≠ b → (zf_TL a).2.1 ≠ (zf_TL b).2.1 := by decide +kernel
theorem zi_TL : ∀ w ∈ u_ws "TwinLedgers" zf_TL 2, w ∈ zw_WS := by decide +kernel
def zf_Ledger : u_T := fun k => match k with
  | 0 => ("TwinLedgers$Ledger", "store", "LTwinLedgers$Store;", true)
  | 1 => ("TwinLedgers$Ledger", "states", "[LTwinLedgers$Store;", true)
  | 2 => ("TwinLedgers$Ledger", "nodes", "[I", true)
  | 3 => ("TwinLedgers$Ledger", "client", "LTwinLedgers$Client;", true)
  | 4 => ("TwinLedgers$Ledger", "bank", "LTwinLedgers$Bank;", true)
  | 5 => ("TwinLedgers$Ledger", "ends", "[LTwinLedgers$End;", true)
  | _ => ("TwinLedgers$Ledger", "height", "I", false)
def zy_Ledger : Nat → FieldType := fun k => match k with
  | 0 => .object "TwinLedgers$Store"
  | 1 => .array (.object "TwinLedgers$Store")
  | 2 => .array .int
  | 3 => .object "TwinLedgers$Client"
  | 4 => .object "TwinLedgers$Bank"
  | 5 => .array (.object "TwinLedgers$End")
  | _ => .int
theorem zj_Ledger : ∀ k, k < 7 → parseFieldDescriptor (zf_Ledger k).2.2.1 = some (zy_Ledger k) := by decide +kernel
theorem zl_Ledger : ∀ a, a < 7 → ∀ b, b < 7 → a ≠ b → (zf_Ledger a).2.1 ≠ (zf_Ledger b).2.1 := by decide +kernel
theorem zi_Ledger : ∀ w ∈ u_ws "TwinLedgers$Ledger" zf_Ledger 7, w ∈ zw_WS := by decide +kernel
def zf_Store : u_T := fun k => match k with
  | 0 => ("TwinLedgers$Store", "values", "[I", true)
  | _ => ("TwinLedgers$Store", "there", "[Z", true)
def zy_Store : Nat → FieldType := fun k => match k with
  | 0 => .array .int
  | _ => .array .boolean
theorem zj_Store : ∀ k, k < 2 → parseFieldDescriptor (zf_Store k).2.2.1 = some (zy_Store k) := by decide +kernel
theorem zl_Store : ∀ a, a < 2 → ∀ b, b < 2 → a ≠ b → (zf_Store a).2.1 ≠ (zf_Store b).2.1 := by decide +kernel
theorem zi_Store : ∀ w ∈ u_ws "TwinLedgers$Store" zf_Store 2, w ∈ zw_WS := by decide +kernel
def zf_Client : u_T := fun k => match k with
  | 0 => ("TwinLedgers$Client", "known", "[Z", true)
  | _ => ("TwinLedgers$Client", "greatest", "I", false)
def zy_Client : Nat → FieldType := fun k => match k with
  | 0 => .array .boolean
  | _ => .int
theorem zj_Client : ∀ k, k < 2 → parseFieldDescriptor (zf_Client k).2.2.1 = some (zy_Client k) := by decide +kernel
theorem zl_Client : ∀ a, a < 2 → ∀ b, b < 2 → a ≠ b → (zf_Client a).2.1 ≠ (zf_Client b).2.1 := by decide +kernel
theorem zi_Client : ∀ w ∈ u_ws "TwinLedgers$Client" zf_Client 2, w ∈ zw_WS := by decide +kernel
def zf_Bank : u_T := fun k => match k with
  | 0 => ("TwinLedgers$Bank", "purses", "[[I", true)
  | 1 => ("TwinLedgers$Bank", "escrows", "[[I", true)
  | 2 => ("TwinLedgers$Bank", "bases", "[I", true)
  | 3 => ("TwinLedgers$Bank", "channels", "[I", true)
  | _ => ("TwinLedgers$Bank", "vouchers", "I", false)
def zy_Bank : Nat → FieldType := fun k => match k with
  | 0 => .array (.array .int)
  | 1 => .array (.array .int)
  | 2 => .array .int
  | 3 => .array .int
  | _ => .int
theorem zj_Bank : ∀ k, k < 5 → parseFieldDescriptor (zf_Bank k).2.2.1 = some (zy_Bank k) := by decide +kernel
theorem zl_Bank : ∀ a, a < 5 → ∀ b, b < 5 → a ≠ b → (zf_Bank a).2.1 ≠ (zf_Bank b).2.1 := by decide +kernel
theorem zi_Bank : ∀ w ∈ u_ws "TwinLedgers$Bank" zf_Bank 5, w ∈ zw_WS := by decide +kernel
def zf_End : u_T := fun k => match k with
  | 0 => ("TwinLedgers$End", "packets", "[LTwinLedgers$Packet;", true)
  | 1 => ("TwinLedgers$End", "sent", "I", false)
  | _ => ("TwinLedgers$End", "nextToAcknowledge", "I", false)
def zy_End : Nat → FieldType := fun k => match k with
  | 0 => .array (.object "TwinLedgers$Packet")
  | 1 => .int
  | _ => .int
theorem zj_End : ∀ k, k < 3 → parseFieldDescriptor (zf_End k).2.2.1 = some (zy_End k) := by decide +kernel
theorem zl_End : ∀ a, a < 3 → ∀ b, b < 3 → a ≠ b → (zf_End a).2.1 ≠ (zf_End b).2.1 := by decide +kernel
theorem zi_End : ∀ w ∈ u_ws "TwinLedgers$End" zf_End 3, w ∈ zw_WS := by decide +kernel
def zf_Packet : u_T := fun k => match k with
  | 0 => ("TwinLedgers$Packet", "kind", "I", false)
  | 1 => ("TwinLedgers$Packet", "amount", "I", false)
  | 2 => ("TwinLedgers$Packet", "from", "I", false)
  | 3 => ("TwinLedgers$Packet", "to", "I", false)
  | 4 => ("TwinLedgers$Packet", "lastHeight", "I", false)
  | 5 => ("TwinLedgers$Packet", "back", "I", false)
  | _ => ("TwinLedgers$Packet", "fate", "I", false)
def zy_Packet : Nat → FieldType := fun k => match k with
  | 0 => .int
  | 1 => .int
  | 2 => .int
  | 3 => .int
  | 4 => .int
  | 5 => .int
  | _ => .int
theorem zj_Packet : ∀ k, k < 7 → parseFieldDescriptor (zf_Packet k).2.2.1 = some (zy_Packet k) := by decide +kernel
theorem zl_Packet : ∀ a, a < 7 → ∀ b, b < 7 → a ≠ b → (zf_Packet a).2.1 ≠ (zf_Packet b).2.1 := by decide +kernel
theorem zi_Packet : ∀ w ∈ u_ws "TwinLedgers$Packet" zf_Packet 7, w ∈ zw_WS := by decide +kernel
def zf_Mo : u_T := fun k => match k with
  | 0 => ("TwinLedgersModel", "patience", "I", true)
  | 1 => ("TwinLedgersModel", "height", "[I", true)
  | 2 => ("TwinLedgersModel", "known", "[Z", true)
  | 3 => ("TwinLedgersModel", "newest", "[I", true)
  | 4 => ("TwinLedgersModel", "sizes", "[I", true)
  | 5 => ("TwinLedgersModel", "keys", "[I", true)
  | 6 => ("TwinLedgersModel", "values", "[I", true)
  | 7 => ("TwinLedgersModel", "state", "[I", true)
  | 8 => ("TwinLedgersModel", "ordered", "[Z", true)
  | 9 => ("TwinLedgersModel", "sent", "[I", true)
  | 10 => ("TwinLedgersModel", "nextIn", "[I", true)
  | 11 => ("TwinLedgersModel", "nextAnswer", "[I", true)
  | 12 => ("TwinLedgersModel", "pKind", "[I", true)
  | 13 => ("TwinLedgersModel", "pAmount", "[I", true)
  | 14 => ("TwinLedgersModel", "pWho", "[I", true)
  | 15 => ("TwinLedgersModel", "pLimit", "[I", true)
  | 16 => ("TwinLedgersModel", "pBack", "[I", true)
  | 17 => ("TwinLedgersModel", "pStatus", "[I", true)
  | 18 => ("TwinLedgersModel", "pAnswer", "[I", true)
  | 19 => ("TwinLedgersModel", "balance", "[I", true)
  | 20 => ("TwinLedgersModel", "escrow", "[I", true)
  | 21 => ("TwinLedgersModel", "vouchers", "[I", true)
  | 22 => ("TwinLedgersModel", "base", "[I", true)
  | 23 => ("TwinLedgersModel", "by", "[I", true)
  | 24 => ("TwinLedgersModel", "part", "[I", true)
  | _ => ("TwinLedgersModel", "leaves", "[I", true)
def zy_Mo : Nat → FieldType := fun k => match k with
  | 0 => .int
  | 1 => .array .int
  | 2 => .array .boolean
  | 3 => .array .int
  | 4 => .array .int
  | 5 => .array .int
  | 6 => .array .int
  | 7 => .array .int
  | 8 => .array .boolean
  | 9 => .array .int
  | 10 => .array .int
  | 11 => .array .int
  | 12 => .array .int
  | 13 => .array .int
  | 14 => .array .int
  | 15 => .array .int
  | 16 => .array .int
  | 17 => .array .int
  | 18 => .array .int
  | 19 => .array .int
  | 20 => .array .int
  | 21 => .array .int
  | 22 => .array .int
  | 23 => .array .int
  | 24 => .array .int
  | _ => .array .int
theorem zj_Mo : ∀ k, k < 26 → parseFieldDescriptor (zf_Mo k).2.2.1 = some (zy_Mo k) := by decide +kernel
theorem zl_Mo : ∀ a, a < 26 → ∀ b, b < 26 → a ≠ b → (zf_Mo a).2.1 ≠ (zf_Mo b).2.1 := by decide +kernel
theorem zi_Mo : ∀ w ∈ u_ws "TwinLedgersModel" zf_Mo 26, w ∈ zw_WS := by decide +kernel
abbrev zw_cl : List vw_C := [("TwinLedgers", zf_TL, 2), ("TwinLedgers$Ledger", zf_Ledger, 7), ("TwinLedgers$Store", zf_Store, 2), ("TwinLedgers$Client", zf_Client, 2), ("TwinLedgers$Bank", zf_Bank, 5), ("TwinLedgers$End", zf_End, 3), ("TwinLedgers$Packet", zf_Packet, 7), ("TwinLedgersModel", zf_Mo, 26)]
def zw_NS : List Cond := [Cond.methodLinkNest "TwinLedgers$Ledger" 11 ⟨"TwinLedgers$Store", "<init>", "()V"⟩ "TwinLedgers", Cond.methodLinkNest "TwinLedgers$Ledger" 28 ⟨"TwinLedgers$Client", "<init>", "()V"⟩ "TwinLedgers", Cond.fieldLinkNest "TwinLedgers$Ledger" 139 "TwinLedgers$Client" "greatest" "I" "TwinLedgers", Cond.fieldLinkNest "TwinLedgers$Ledger" 117 "TwinLedgers$Bank" "purses" "[[I" "TwinLedgers", Cond.fieldLinkNest "TwinLedgers" 143 "TwinLedgers$Bank" "purses" "[[I" "TwinLedgers", Cond.fieldLinkNest "TwinLedgers" 147 "TwinLedgers$Bank" "escrows" "[[I" "TwinLedgers", Cond.fieldLinkNest "TwinLedgers" 150 "TwinLedgers$Bank" "bases" "[I" "TwinLedgers", Cond.fieldLinkNest "TwinLedgers" 154 "TwinLedgers$Bank" "channels" "[I" "TwinLedgers", Cond.methodLinkNest "TwinLedgers$End" 21 ⟨"TwinLedgers$Packet", "<init>", "()V"⟩ "TwinLedgers", Cond.fieldLinkNest "TwinLedgers$Bank" 35 "TwinLedgers$Packet" "kind" "I" "TwinLedgers", Cond.fieldLinkNest "TwinLedgers$Ledger" 125 "TwinLedgers$Packet" "kind" "I" "TwinLedgers", Cond.fieldLinkNest "TwinLedgers$Bank" 38 "TwinLedgers$Packet" "amount" "I" "TwinLedgers", Cond.fieldLinkNest "TwinLedgers$Ledger" 130 "TwinLedgers$Packet" "amount" "I" "TwinLedgers", Cond.fieldLinkNest "TwinLedgers$Bank" 30 "TwinLedgers$Packet" "from" "I" "TwinLedgers", Cond.fieldLinkNest "TwinLedgers$Ledger" 133 "TwinLedgers$Packet" "from" "I" "TwinLedgers", Cond.fieldLinkNest "TwinLedgers$Bank" 45 "TwinLedgers$Packet" "to" "I" "TwinLedgers", Cond.fieldLinkNest "TwinLedgers$Ledger" 136 "TwinLedgers$Packet" "to" "I" "TwinLedgers", Cond.fieldLinkNest "TwinLedgers" 140 "TwinLedgers$Packet" "lastHeight" "I" "TwinLedgers", Cond.fieldLinkNest "TwinLedgers$Ledger" 142 "TwinLedgers$Packet" "lastHeight" "I" "TwinLedgers", Cond.fieldLinkNest "TwinLedgers$Bank" 55 "TwinLedgers$Packet" "back" "I" "TwinLedgers", Cond.fieldLinkNest "TwinLedgers$Ledger" 148 "TwinLedgers$Packet" "back" "I" "TwinLedgers", Cond.fieldLinkNest "TwinLedgers" 135 "TwinLedgers$Packet" "fate" "I" "TwinLedgers", Cond.fieldLinkNest "TwinLedgers$Ledger" 187 "TwinLedgers$Packet" "fate" "I" "TwinLedgers", Cond.fieldLinkNest "TwinLedgers" 131 "TwinLedgers$End" "packets" "[LTwinLedgers$Packet;" "TwinLedgers", Cond.fieldLinkNest "TwinLedgers$Ledger" 121 "TwinLedgers$End" "packets" "[LTwinLedgers$Packet;" "TwinLedgers", Cond.fieldLinkNest "TwinLedgers" 120 "TwinLedgers$End" "sent" "I" "TwinLedgers", Cond.fieldLinkNest "TwinLedgers$Ledger" 114 "TwinLedgers$End" "sent" "I" "TwinLedgers", Cond.fieldLinkNest "TwinLedgers" 128 "TwinLedgers$End" "nextToAcknowledge" "I" "TwinLedgers", Cond.fieldLinkNest "TwinLedgers$Ledger" 184 "TwinLedgers$End" "nextToAcknowledge" "I" "TwinLedgers", Cond.fieldLinkNest "TwinLedgers" 37 "TwinLedgers$Ledger" "client" "LTwinLedgers$Client;" "TwinLedgers", Cond.fieldLinkNest "TwinLedgers" 66 "TwinLedgers$Ledger" "bank" "LTwinLedgers$Bank;" "TwinLedgers", Cond.fieldLinkNest "TwinLedgers" 116 "TwinLedgers$Ledger" "ends" "[LTwinLedgers$End;" "TwinLedgers", Cond.fieldLinkNest "TwinLedgers" 28 "TwinLedgers$Ledger" "height" "I" "TwinLedgers", Cond.methodLinkNest "TwinLedgers$Packet" 18 ⟨"TwinLedgers", "mix", "(II)I"⟩ "TwinLedgers", Cond.methodLinkNest "TwinLedgers$Store" 23 ⟨"TwinLedgers", "mix", "(II)I"⟩ "TwinLedgers"]
def ym_TL_ctor : MethodName := ⟨"TwinLedgers", "<init>", "(I)V"⟩
abbrev bm_TL_ctor : ByteArray := prog_1_method_1_code
theorem zk_TL_ctor : Cond.code ym_TL_ctor bm_TL_ctor 3 none ∈ zw_WS ∧ Cond.initialized ym_TL_ctor.cls ∈ zw_WS ∧ (ym_TL_ctor.cls ≠ "java/lang/invoke/MethodHandle" ∧ ym_TL_ctor.cls ≠ "java/lang/invoke/VarHandle" ∧ (parseMethodDescriptor ym_TL_ctor.desc).map (fun d => d.parameters.length) = some 1) := ⟨zw_mem 41 (by decide +kernel) rfl, zw_mem 27 (by decide +kernel) rfl, by decide +kernel, by decide +kernel, by decide +kernel⟩
theorem za_TL_ctor : Cond.instanceMethod ym_TL_ctor ∈ zw_WS := zw_mem 40 (by decide +kernel) rfl
def ym_TL_tick : MethodName := ⟨"TwinLedgers", "tick", "(I)I"⟩
abbrev bm_TL_tick : ByteArray := prog_1_method_2_code
theorem zk_TL_tick : Cond.code ym_TL_tick bm_TL_tick 2 (some .int) ∈ zw_WS ∧ Cond.initialized ym_TL_tick.cls ∈ zw_WS ∧ (ym_TL_tick.cls ≠ "java/lang/invoke/MethodHandle" ∧ ym_TL_tick.cls ≠ "java/lang/invoke/VarHandle" ∧ (parseMethodDescriptor ym_TL_tick.desc).map (fun d => d.parameters.length) = some 1) := ⟨zw_mem 211 (by decide +kernel) rfl, zw_mem 27 (by decide +kernel) rfl, by decide +kernel, by decide +kernel, by decide +kernel⟩
theorem za_TL_tick : Cond.instanceMethod ym_TL_tick ∈ zw_WS := zw_mem 209 (by decide +kernel) rfl
theorem zb_TL_tick : Cond.selects ym_TL_tick.cls ym_TL_tick ym_TL_tick ∈ zw_WS := zw_mem 210 (by decide +kernel) rfl
def ym_TL_update : MethodName := ⟨"TwinLedgers", "update", "(IIIZ)I"⟩
abbrev bm_TL_update : ByteArray := prog_1_method_3_code
theorem zk_TL_update : Cond.code ym_TL_update bm_TL_update 5 (some .int) ∈ zw_WS ∧ Cond.initialized ym_TL_update.cls ∈ zw_WS ∧ (ym_TL_update.cls ≠ "java/lang/invoke/MethodHandle" ∧ ym_TL_update.cls ≠ "java/lang/invoke/VarHandle" ∧ (parseMethodDescriptor ym_TL_update.desc).map (fun d => d.parameters.length) = some 4) := ⟨zw_mem 226 (by decide +kernel) rfl, zw_mem 27 (by decide +kernel) rfl, by decide +kernel, by decide +kernel, by decide +kernel⟩
theorem za_TL_update : Cond.instanceMethod ym_TL_update ∈ zw_WS := zw_mem 224 (by decide +kernel) rfl
theorem zb_TL_update : Cond.selects ym_TL_update.cls ym_TL_update ym_TL_update ∈ zw_WS := zw_mem 225 (by decide +kernel) rfl
def ym_TL_init : MethodName := ⟨"TwinLedgers", "init", "(IIZ)I"⟩
abbrev bm_TL_init : ByteArray := prog_1_method_4_code
theorem zk_TL_init : Cond.code ym_TL_init bm_TL_init 4 (some .int) ∈ zw_WS ∧ Cond.initialized ym_TL_init.cls ∈ zw_WS ∧ (ym_TL_init.cls ≠ "java/lang/invoke/MethodHandle" ∧ ym_TL_init.cls ≠ "java/lang/invoke/VarHandle" ∧ (parseMethodDescriptor ym_TL_init.desc).map (fun d => d.parameters.length) = some 3) := ⟨zw_mem 243 (by decide +kernel) rfl, zw_mem 27 (by decide +kernel) rfl, by decide +kernel, by decide +kernel, by decide +kernel⟩
theorem za_TL_init : Cond.instanceMethod ym_TL_init ∈ zw_WS := zw_mem 241 (by decide +kernel) rfl
theorem zb_TL_init : Cond.selects ym_TL_init.cls ym_TL_init ym_TL_init ∈ zw_WS := zw_mem 242 (by decide +kernel) rfl
def ym_TL_attempt : MethodName := ⟨"TwinLedgers", "attempt", "(IIZI)I"⟩
abbrev bm_TL_attempt : ByteArray := prog_1_method_5_code
theorem zk_TL_attempt : Cond.code ym_TL_attempt bm_TL_attempt 5 (some .int) ∈ zw_WS ∧ Cond.initialized ym_TL_attempt.cls ∈ zw_WS ∧ (ym_TL_attempt.cls ≠ "java/lang/invoke/MethodHandle" ∧ ym_TL_attempt.cls ≠ "java/lang/invoke/VarHandle" ∧ (parseMethodDescriptor ym_TL_attempt.desc).map (fun d => d.parameters.length) = some 4) := ⟨zw_mem 276 (by decide +kernel) rfl, zw_mem 27 (by decide +kernel) rfl, by decide +kernel, by decide +kernel, by decide +kernel⟩
theorem za_TL_attempt : Cond.instanceMethod ym_TL_attempt ∈ zw_WS := zw_mem 274 (by decide +kernel) rfl
theorem zb_TL_attempt : Cond.selects ym_TL_attempt.cls ym_TL_attempt ym_TL_attempt ∈ zw_WS := zw_mem 275 (by decide +kernel) rfl
def ym_TL_open : MethodName := ⟨"TwinLedgers", "open", "(IIII)I"⟩
abbrev bm_TL_open : ByteArray := prog_1_method_6_code
theorem zk_TL_open : Cond.code ym_TL_open bm_TL_open 7 (some .int) ∈ zw_WS ∧ Cond.initialized ym_TL_open.cls ∈ zw_WS ∧ (ym_TL_open.cls ≠ "java/lang/invoke/MethodHandle" ∧ ym_TL_open.cls ≠ "java/lang/invoke/VarHandle" ∧ (parseMethodDescriptor ym_TL_open.desc).map (fun d => d.parameters.length) = some 4) := ⟨zw_mem 312 (by decide +kernel) rfl, zw_mem 27 (by decide +kernel) rfl, by decide +kernel, by decide +kernel, by decide +kernel⟩
theorem za_TL_open : Cond.instanceMethod ym_TL_open ∈ zw_WS := zw_mem 310 (by decide +kernel) rfl
theorem zb_TL_open : Cond.selects ym_TL_open.cls ym_TL_open ym_TL_open ∈ zw_WS := zw_mem 311 (by decide +kernel) rfl
def ym_TL_close : MethodName := ⟨"TwinLedgers", "close", "(II)I"⟩
abbrev bm_TL_close : ByteArray := prog_1_method_7_code
theorem zk_TL_close : Cond.code ym_TL_close bm_TL_close 3 (some .int) ∈ zw_WS ∧ Cond.initialized ym_TL_close.cls ∈ zw_WS ∧ (ym_TL_close.cls ≠ "java/lang/invoke/MethodHandle" ∧ ym_TL_close.cls ≠ "java/lang/invoke/VarHandle" ∧ (parseMethodDescriptor ym_TL_close.desc).map (fun d => d.parameters.length) = some 2) := ⟨zw_mem 324 (by decide +kernel) rfl, zw_mem 27 (by decide +kernel) rfl, by decide +kernel, by decide +kernel, by decide +kernel⟩
theorem za_TL_close : Cond.instanceMethod ym_TL_close ∈ zw_WS := zw_mem 322 (by decide +kernel) rfl
theorem zb_TL_close : Cond.selects ym_TL_close.cls ym_TL_close ym_TL_close ∈ zw_WS := zw_mem 323 (by decide +kernel) rfl
def ym_TL_send : MethodName := ⟨"TwinLedgers", "send", "(IIIII)I"⟩
abbrev bm_TL_send : ByteArray := prog_1_method_8_code
theorem zk_TL_send : Cond.code ym_TL_send bm_TL_send 6 (some .int) ∈ zw_WS ∧ Cond.initialized ym_TL_send.cls ∈ zw_WS ∧ (ym_TL_send.cls ≠ "java/lang/invoke/MethodHandle" ∧ ym_TL_send.cls ≠ "java/lang/invoke/VarHandle" ∧ (parseMethodDescriptor ym_TL_send.desc).map (fun d => d.parameters.length) = some 5) := ⟨zw_mem 332 (by decide +kernel) rfl, zw_mem 27 (by decide +kernel) rfl, by decide +kernel, by decide +kernel, by decide +kernel⟩
theorem za_TL_send : Cond.instanceMethod ym_TL_send ∈ zw_WS := zw_mem 330 (by decide +kernel) rfl
theorem zb_TL_send : Cond.selects ym_TL_send.cls ym_TL_send ym_TL_send ∈ zw_WS := zw_mem 331 (by decide +kernel) rfl
def ym_TL_receive : MethodName := ⟨"TwinLedgers", "receive", "(IIIIZ)I"⟩
abbrev bm_TL_receive : ByteArray := prog_1_method_9_code
theorem zk_TL_receive : Cond.code ym_TL_receive bm_TL_receive 6 (some .int) ∈ zw_WS ∧ Cond.initialized ym_TL_receive.cls ∈ zw_WS ∧ (ym_TL_receive.cls ≠ "java/lang/invoke/MethodHandle" ∧ ym_TL_receive.cls ≠ "java/lang/invoke/VarHandle" ∧ (parseMethodDescriptor ym_TL_receive.desc).map (fun d => d.parameters.length) = some 5) := ⟨zw_mem 367 (by decide +kernel) rfl, zw_mem 27 (by decide +kernel) rfl, by decide +kernel, by decide +kernel, by decide +kernel⟩
theorem za_TL_receive : Cond.instanceMethod ym_TL_receive ∈ zw_WS := zw_mem 365 (by decide +kernel) rfl
theorem zb_TL_receive : Cond.selects ym_TL_receive.cls ym_TL_receive ym_TL_receive ∈ zw_WS := zw_mem 366 (by decide +kernel) rfl
def ym_TL_acknowledge : MethodName := ⟨"TwinLedgers", "acknowledge", "(IIII)I"⟩
abbrev bm_TL_acknowledge : ByteArray := prog_1_method_10_code
theorem zk_TL_acknowledge : Cond.code ym_TL_acknowledge bm_TL_acknowledge 5 (some .int) ∈ zw_WS ∧ Cond.initialized ym_TL_acknowledge.cls ∈ zw_WS ∧ (ym_TL_acknowledge.cls ≠ "java/lang/invoke/MethodHandle" ∧ ym_TL_acknowledge.cls ≠ "java/lang/invoke/VarHandle" ∧ (parseMethodDescriptor ym_TL_acknowledge.desc).map (fun d => d.parameters.length) = some 4) := ⟨zw_mem 418 (by decide +kernel) rfl, zw_mem 27 (by decide +kernel) rfl, by decide +kernel, by decide +kernel, by decide +kernel⟩
theorem za_TL_acknowledge : Cond.instanceMethod ym_TL_acknowledge ∈ zw_WS := zw_mem 416 (by decide +kernel) rfl
theorem zb_TL_acknowledge : Cond.selects ym_TL_acknowledge.cls ym_TL_acknowledge ym_TL_acknowledge ∈ zw_WS := zw_mem 417 (by decide +kernel) rfl
def ym_TL_timeout : MethodName := ⟨"TwinLedgers", "timeout", "(IIIIZ)I"⟩
abbrev bm_TL_timeout : ByteArray := prog_1_method_11_code
theorem zk_TL_timeout : Cond.code ym_TL_timeout bm_TL_timeout 6 (some .int) ∈ zw_WS ∧ Cond.initialized ym_TL_timeout.cls ∈ zw_WS ∧ (ym_TL_timeout.cls ≠ "java/lang/invoke/MethodHandle" ∧ ym_TL_timeout.cls ≠ "java/lang/invoke/VarHandle" ∧ (parseMethodDescriptor ym_TL_timeout.desc).map (fun d => d.parameters.length) = some 5) := ⟨zw_mem 438 (by decide +kernel) rfl, zw_mem 27 (by decide +kernel) rfl, by decide +kernel, by decide +kernel, by decide +kernel⟩
theorem za_TL_timeout : Cond.instanceMethod ym_TL_timeout ∈ zw_WS := zw_mem 436 (by decide +kernel) rfl
theorem zb_TL_timeout : Cond.selects ym_TL_timeout.cls ym_TL_timeout ym_TL_timeout ∈ zw_WS := zw_mem 437 (by decide +kernel) rfl
def ym_TL_round : MethodName := ⟨"TwinLedgers", "round", "()I"⟩
abbrev bm_TL_round : ByteArray := prog_1_method_12_code
theorem zk_TL_round : Cond.code ym_TL_round bm_TL_round 3 (some .int) ∈ zw_WS ∧ Cond.initialized ym_TL_round.cls ∈ zw_WS ∧ (ym_TL_round.cls ≠ "java/lang/invoke/MethodHandle" ∧ ym_TL_round.cls ≠ "java/lang/invoke/VarHandle" ∧ (parseMethodDescriptor ym_TL_round.desc).map (fun d => d.parameters.length) = some 0) := ⟨zw_mem 454 (by decide +kernel) rfl, zw_mem 27 (by decide +kernel) rfl, by decide +kernel, by decide +kernel, by decide +kernel⟩
theorem za_TL_round : Cond.instanceMethod ym_TL_round ∈ zw_WS := zw_mem 452 (by decide +kernel) rfl
theorem zb_TL_round : Cond.selects ym_TL_round.cls ym_TL_round ym_TL_round ∈ zw_WS := zw_mem 453 (by decide +kernel) rfl
def ym_TL_height : MethodName := ⟨"TwinLedgers", "height", "(I)I"⟩
abbrev bm_TL_height : ByteArray := prog_1_method_13_code
theorem zk_TL_height : Cond.code ym_TL_height bm_TL_height 2 (some .int) ∈ zw_WS ∧ Cond.initialized ym_TL_height.cls ∈ zw_WS ∧ (ym_TL_height.cls ≠ "java/lang/invoke/MethodHandle" ∧ ym_TL_height.cls ≠ "java/lang/invoke/VarHandle" ∧ (parseMethodDescriptor ym_TL_height.desc).map (fun d => d.parameters.length) = some 1) := ⟨zw_mem 467 (by decide +kernel) rfl, zw_mem 27 (by decide +kernel) rfl, by decide +kernel, by decide +kernel, by decide +kernel⟩
theorem za_TL_height : Cond.instanceMethod ym_TL_height ∈ zw_WS := zw_mem 465 (by decide +kernel) rfl
theorem zb_TL_height : Cond.selects ym_TL_height.cls ym_TL_height ym_TL_height ∈ zw_WS := zw_mem 466 (by decide +kernel) rfl
def ym_TL_root : MethodName := ⟨"TwinLedgers", "root", "(II)I"⟩
abbrev bm_TL_root : ByteArray := prog_1_method_14_code
theorem zk_TL_root : Cond.code ym_TL_root bm_TL_root 3 (some .int) ∈ zw_WS ∧ Cond.initialized ym_TL_root.cls ∈ zw_WS ∧ (ym_TL_root.cls ≠ "java/lang/invoke/MethodHandle" ∧ ym_TL_root.cls ≠ "java/lang/invoke/VarHandle" ∧ (parseMethodDescriptor ym_TL_root.desc).map (fun d => d.parameters.length) = some 2) := ⟨zw_mem 471 (by decide +kernel) rfl, zw_mem 27 (by decide +kernel) rfl, by decide +kernel, by decide +kernel, by decide +kernel⟩
theorem za_TL_root : Cond.instanceMethod ym_TL_root ∈ zw_WS := zw_mem 469 (by decide +kernel) rfl
theorem zb_TL_root : Cond.selects ym_TL_root.cls ym_TL_root ym_TL_root ∈ zw_WS := zw_mem 470 (by decide +kernel) rfl
def ym_TL_knows : MethodName := ⟨"TwinLedgers", "knows", "(II)Z"⟩
abbrev bm_TL_knows : ByteArray := prog_1_method_15_code
theorem zk_TL_knows : Cond.code ym_TL_knows bm_TL_knows 3 (some .boolean) ∈ zw_WS ∧ Cond.initialized ym_TL_knows.cls ∈ zw_WS ∧ (ym_TL_knows.cls ≠ "java/lang/invoke/MethodHandle" ∧ ym_TL_knows.cls ≠ "java/lang/invoke/VarHandle" ∧ (parseMethodDescriptor ym_TL_knows.desc).map (fun d => d.parameters.length) = some 2) := ⟨zw_mem 487 (by decide +kernel) rfl, zw_mem 27 (by decide +kernel) rfl, by decide +kernel, by decide +kernel, by decide +kernel⟩
theorem za_TL_knows : Cond.instanceMethod ym_TL_knows ∈ zw_WS := zw_mem 485 (by decide +kernel) rfl
theorem zb_TL_knows : Cond.selects ym_TL_knows.cls ym_TL_knows ym_TL_knows ∈ zw_WS := zw_mem 486 (by decide +kernel) rfl
def ym_TL_end : MethodName := ⟨"TwinLedgers", "end", "(III)I"⟩
abbrev bm_TL_end : ByteArray := prog_1_method_16_code
theorem zk_TL_end : Cond.code ym_TL_end bm_TL_end 5 (some .int) ∈ zw_WS ∧ Cond.initialized ym_TL_end.cls ∈ zw_WS ∧ (ym_TL_end.cls ≠ "java/lang/invoke/MethodHandle" ∧ ym_TL_end.cls ≠ "java/lang/invoke/VarHandle" ∧ (parseMethodDescriptor ym_TL_end.desc).map (fun d => d.parameters.length) = some 3) := ⟨zw_mem 492 (by decide +kernel) rfl, zw_mem 27 (by decide +kernel) rfl, by decide +kernel, by decide +kernel, by decide +kernel⟩
theorem za_TL_end : Cond.instanceMethod ym_TL_end ∈ zw_WS := zw_mem 490 (by decide +kernel) rfl
theorem zb_TL_end : Cond.selects ym_TL_end.cls ym_TL_end ym_TL_end ∈ zw_WS := zw_mem 491 (by decide +kernel) rfl
def ym_TL_packet : MethodName := ⟨"TwinLedgers", "packet", "(III)I"⟩
abbrev bm_TL_packet : ByteArray := prog_1_method_17_code
theorem zk_TL_packet : Cond.code ym_TL_packet bm_TL_packet 4 (some .int) ∈ zw_WS ∧ Cond.initialized ym_TL_packet.cls ∈ zw_WS ∧ (ym_TL_packet.cls ≠ "java/lang/invoke/MethodHandle" ∧ ym_TL_packet.cls ≠ "java/lang/invoke/VarHandle" ∧ (parseMethodDescriptor ym_TL_packet.desc).map (fun d => d.parameters.length) = some 3) := ⟨zw_mem 499 (by decide +kernel) rfl, zw_mem 27 (by decide +kernel) rfl, by decide +kernel, by decide +kernel, by decide +kernel⟩
theorem za_TL_packet : Cond.instanceMethod ym_TL_packet ∈ zw_WS := zw_mem 497 (by decide +kernel) rfl
theorem zb_TL_packet : Cond.selects ym_TL_packet.cls ym_TL_packet ym_TL_packet ∈ zw_WS := zw_mem 498 (by decide +kernel) rfl
def ym_TL_limit : MethodName := ⟨"TwinLedgers", "limit", "(III)I"⟩
abbrev bm_TL_limit : ByteArray := prog_1_method_18_code
theorem zk_TL_limit : Cond.code ym_TL_limit bm_TL_limit 4 (some .int) ∈ zw_WS ∧ Cond.initialized ym_TL_limit.cls ∈ zw_WS ∧ (ym_TL_limit.cls ≠ "java/lang/invoke/MethodHandle" ∧ ym_TL_limit.cls ≠ "java/lang/invoke/VarHandle" ∧ (parseMethodDescriptor ym_TL_limit.desc).map (fun d => d.parameters.length) = some 3) := ⟨zw_mem 503 (by decide +kernel) rfl, zw_mem 27 (by decide +kernel) rfl, by decide +kernel, by decide +kernel, by decide +kernel⟩
theorem za_TL_limit : Cond.instanceMethod ym_TL_limit ∈ zw_WS := zw_mem 501 (by decide +kernel) rfl
theorem zb_TL_limit : Cond.selects ym_TL_limit.cls ym_TL_limit ym_TL_limit ∈ zw_WS := zw_mem 502 (by decide +kernel) rfl
def ym_TL_balance : MethodName := ⟨"TwinLedgers", "balance", "(III)I"⟩
abbrev bm_TL_balance : ByteArray := prog_1_method_19_code
theorem zk_TL_balance : Cond.code ym_TL_balance bm_TL_balance 4 (some .int) ∈ zw_WS ∧ Cond.initialized ym_TL_balance.cls ∈ zw_WS ∧ (ym_TL_balance.cls ≠ "java/lang/invoke/MethodHandle" ∧ ym_TL_balance.cls ≠ "java/lang/invoke/VarHandle" ∧ (parseMethodDescriptor ym_TL_balance.desc).map (fun d => d.parameters.length) = some 3) := ⟨zw_mem 507 (by decide +kernel) rfl, zw_mem 27 (by decide +kernel) rfl, by decide +kernel, by decide +kernel, by decide +kernel⟩
theorem za_TL_balance : Cond.instanceMethod ym_TL_balance ∈ zw_WS := zw_mem 505 (by decide +kernel) rfl
theorem zb_TL_balance : Cond.selects ym_TL_balance.cls ym_TL_balance ym_TL_balance ∈ zw_WS := zw_mem 506 (by decide +kernel) rfl
def ym_TL_escrow : MethodName := ⟨"TwinLedgers", "escrow", "(III)I"⟩
abbrev bm_TL_escrow : ByteArray := prog_1_method_20_code
theorem zk_TL_escrow : Cond.code ym_TL_escrow bm_TL_escrow 4 (some .int) ∈ zw_WS ∧ Cond.initialized ym_TL_escrow.cls ∈ zw_WS ∧ (ym_TL_escrow.cls ≠ "java/lang/invoke/MethodHandle" ∧ ym_TL_escrow.cls ≠ "java/lang/invoke/VarHandle" ∧ (parseMethodDescriptor ym_TL_escrow.desc).map (fun d => d.parameters.length) = some 3) := ⟨zw_mem 511 (by decide +kernel) rfl, zw_mem 27 (by decide +kernel) rfl, by decide +kernel, by decide +kernel, by decide +kernel⟩
theorem za_TL_escrow : Cond.instanceMethod ym_TL_escrow ∈ zw_WS := zw_mem 509 (by decide +kernel) rfl
theorem zb_TL_escrow : Cond.selects ym_TL_escrow.cls ym_TL_escrow ym_TL_escrow ∈ zw_WS := zw_mem 510 (by decide +kernel) rfl
def ym_TL_voucher : MethodName := ⟨"TwinLedgers", "voucher", "(II)I"⟩
abbrev bm_TL_voucher : ByteArray := prog_1_method_21_code
theorem zk_TL_voucher : Cond.code ym_TL_voucher bm_TL_voucher 3 (some .int) ∈ zw_WS ∧ Cond.initialized ym_TL_voucher.cls ∈ zw_WS ∧ (ym_TL_voucher.cls ≠ "java/lang/invoke/MethodHandle" ∧ ym_TL_voucher.cls ≠ "java/lang/invoke/VarHandle" ∧ (parseMethodDescriptor ym_TL_voucher.desc).map (fun d => d.parameters.length) = some 2) := ⟨zw_mem 515 (by decide +kernel) rfl, zw_mem 27 (by decide +kernel) rfl, by decide +kernel, by decide +kernel, by decide +kernel⟩
theorem za_TL_voucher : Cond.instanceMethod ym_TL_voucher ∈ zw_WS := zw_mem 513 (by decide +kernel) rfl
theorem zb_TL_voucher : Cond.selects ym_TL_voucher.cls ym_TL_voucher ym_TL_voucher ∈ zw_WS := zw_mem 514 (by decide +kernel) rfl
def ym_TL_isLedger : MethodName := ⟨"TwinLedgers", "isLedger", "(I)Z"⟩
abbrev bm_TL_isLedger : ByteArray := prog_1_method_22_code
theorem zk_TL_isLedger : Cond.code ym_TL_isLedger bm_TL_isLedger 1 (some .boolean) ∈ zw_WS ∧ Cond.initialized ym_TL_isLedger.cls ∈ zw_WS ∧ (ym_TL_isLedger.cls ≠ "java/lang/invoke/MethodHandle" ∧ ym_TL_isLedger.cls ≠ "java/lang/invoke/VarHandle" ∧ (parseMethodDescriptor ym_TL_isLedger.desc).map (fun d => d.parameters.length) = some 1) := ⟨zw_mem 214 (by decide +kernel) rfl, zw_mem 27 (by decide +kernel) rfl, by decide +kernel, by decide +kernel, by decide +kernel⟩
theorem za_TL_isLedger : Cond.static ym_TL_isLedger ∈ zw_WS := zw_mem 213 (by decide +kernel) rfl
def ym_TL_isEnd : MethodName := ⟨"TwinLedgers", "isEnd", "(II)Z"⟩
abbrev bm_TL_isEnd : ByteArray := prog_1_method_23_code
theorem zk_TL_isEnd : Cond.code ym_TL_isEnd bm_TL_isEnd 2 (some .boolean) ∈ zw_WS ∧ Cond.initialized ym_TL_isEnd.cls ∈ zw_WS ∧ (ym_TL_isEnd.cls ≠ "java/lang/invoke/MethodHandle" ∧ ym_TL_isEnd.cls ≠ "java/lang/invoke/VarHandle" ∧ (parseMethodDescriptor ym_TL_isEnd.desc).map (fun d => d.parameters.length) = some 2) := ⟨zw_mem 246 (by decide +kernel) rfl, zw_mem 27 (by decide +kernel) rfl, by decide +kernel, by decide +kernel, by decide +kernel⟩
theorem za_TL_isEnd : Cond.static ym_TL_isEnd ∈ zw_WS := zw_mem 245 (by decide +kernel) rfl
def ym_TL_isPacket : MethodName := ⟨"TwinLedgers", "isPacket", "(III)Z"⟩
abbrev bm_TL_isPacket : ByteArray := prog_1_method_24_code
theorem zk_TL_isPacket : Cond.code ym_TL_isPacket bm_TL_isPacket 4 (some .boolean) ∈ zw_WS ∧ Cond.initialized ym_TL_isPacket.cls ∈ zw_WS ∧ (ym_TL_isPacket.cls ≠ "java/lang/invoke/MethodHandle" ∧ ym_TL_isPacket.cls ≠ "java/lang/invoke/VarHandle" ∧ (parseMethodDescriptor ym_TL_isPacket.desc).map (fun d => d.parameters.length) = some 3) := ⟨zw_mem 371 (by decide +kernel) rfl, zw_mem 27 (by decide +kernel) rfl, by decide +kernel, by decide +kernel, by decide +kernel⟩
theorem za_TL_isPacket : Cond.instanceMethod ym_TL_isPacket ∈ zw_WS := zw_mem 370 (by decide +kernel) rfl
theorem zb_TL_isPacket : Cond.selects ym_TL_isPacket.cls ym_TL_isPacket ym_TL_isPacket ∈ zw_WS := zw_mem 5 (by decide +kernel) rfl
def ym_TL_relayPackets : MethodName := ⟨"TwinLedgers", "relayPackets", "(LTwinLedgers$Ledger;LTwinLedgers$Ledger;)I"⟩
abbrev bm_TL_relayPackets : ByteArray := prog_1_method_25_code
theorem zk_TL_relayPackets : Cond.code ym_TL_relayPackets bm_TL_relayPackets 6 (some .int) ∈ zw_WS ∧ Cond.initialized ym_TL_relayPackets.cls ∈ zw_WS ∧ (ym_TL_relayPackets.cls ≠ "java/lang/invoke/MethodHandle" ∧ ym_TL_relayPackets.cls ≠ "java/lang/invoke/VarHandle" ∧ (parseMethodDescriptor ym_TL_relayPackets.desc).map (fun d => d.parameters.length) = some 2) := ⟨zw_mem 457 (by decide +kernel) rfl, zw_mem 27 (by decide +kernel) rfl, by decide +kernel, by decide +kernel, by decide +kernel⟩
theorem za_TL_relayPackets : Cond.static ym_TL_relayPackets ∈ zw_WS := zw_mem 456 (by decide +kernel) rfl
def ym_TL_relayAnswers : MethodName := ⟨"TwinLedgers", "relayAnswers", "(LTwinLedgers$Ledger;LTwinLedgers$Ledger;)I"⟩
abbrev bm_TL_relayAnswers : ByteArray := prog_1_method_26_code
theorem zk_TL_relayAnswers : Cond.code ym_TL_relayAnswers bm_TL_relayAnswers 6 (some .int) ∈ zw_WS ∧ Cond.initialized ym_TL_relayAnswers.cls ∈ zw_WS ∧ (ym_TL_relayAnswers.cls ≠ "java/lang/invoke/MethodHandle" ∧ ym_TL_relayAnswers.cls ≠ "java/lang/invoke/VarHandle" ∧ (parseMethodDescriptor ym_TL_relayAnswers.desc).map (fun d => d.parameters.length) = some 2) := ⟨zw_mem 460 (by decide +kernel) rfl, zw_mem 27 (by decide +kernel) rfl, by decide +kernel, by decide +kernel, by decide +kernel⟩
theorem za_TL_relayAnswers : Cond.static ym_TL_relayAnswers ∈ zw_WS := zw_mem 459 (by decide +kernel) rfl
def ym_TL_relayTimeouts : MethodName := ⟨"TwinLedgers", "relayTimeouts", "(LTwinLedgers$Ledger;LTwinLedgers$Ledger;)I"⟩
abbrev bm_TL_relayTimeouts : ByteArray := prog_1_method_27_code
theorem zk_TL_relayTimeouts : Cond.code ym_TL_relayTimeouts bm_TL_relayTimeouts 6 (some .int) ∈ zw_WS ∧ Cond.initialized ym_TL_relayTimeouts.cls ∈ zw_WS ∧ (ym_TL_relayTimeouts.cls ≠ "java/lang/invoke/MethodHandle" ∧ ym_TL_relayTimeouts.cls ≠ "java/lang/invoke/VarHandle" ∧ (parseMethodDescriptor ym_TL_relayTimeouts.desc).map (fun d => d.parameters.length) = some 2) := ⟨zw_mem 463 (by decide +kernel) rfl, zw_mem 27 (by decide +kernel) rfl, by decide +kernel, by decide +kernel, by decide +kernel⟩
theorem za_TL_relayTimeouts : Cond.static ym_TL_relayTimeouts ∈ zw_WS := zw_mem 462 (by decide +kernel) rfl
def ym_TL_mix : MethodName := ⟨"TwinLedgers", "mix", "(II)I"⟩
abbrev bm_TL_mix : ByteArray := prog_1_method_28_code
theorem zk_TL_mix : Cond.code ym_TL_mix bm_TL_mix 3 (some .int) ∈ zw_WS ∧ Cond.initialized ym_TL_mix.cls ∈ zw_WS ∧ (ym_TL_mix.cls ≠ "java/lang/invoke/MethodHandle" ∧ ym_TL_mix.cls ≠ "java/lang/invoke/VarHandle" ∧ (parseMethodDescriptor ym_TL_mix.desc).map (fun d => d.parameters.length) = some 2) := ⟨zw_mem 362 (by decide +kernel) rfl, zw_mem 27 (by decide +kernel) rfl, by decide +kernel, by decide +kernel, by decide +kernel⟩
theorem za_TL_mix : Cond.static ym_TL_mix ∈ zw_WS := zw_mem 361 (by decide +kernel) rfl
def ym_Ledger_ctor : MethodName := ⟨"TwinLedgers$Ledger", "<init>", "()V"⟩
abbrev bm_Ledger_ctor : ByteArray := prog_5_method_1_code
theorem zk_Ledger_ctor : Cond.code ym_Ledger_ctor bm_Ledger_ctor 2 none ∈ zw_WS ∧ Cond.initialized ym_Ledger_ctor.cls ∈ zw_WS ∧ (ym_Ledger_ctor.cls ≠ "java/lang/invoke/MethodHandle" ∧ ym_Ledger_ctor.cls ≠ "java/lang/invoke/VarHandle" ∧ (parseMethodDescriptor ym_Ledger_ctor.desc).map (fun d => d.parameters.length) = some 0) := ⟨zw_mem 50 (by decide +kernel) rfl, zw_mem 28 (by decide +kernel) rfl, by decide +kernel, by decide +kernel, by decide +kernel⟩
theorem za_Ledger_ctor : Cond.instanceMethod ym_Ledger_ctor ∈ zw_WS := zw_mem 49 (by decide +kernel) rfl
def ym_Ledger_makeBlock : MethodName := ⟨"TwinLedgers$Ledger", "makeBlock", "()I"⟩
abbrev bm_Ledger_makeBlock : ByteArray := prog_5_method_2_code
theorem zk_Ledger_makeBlock : Cond.code ym_Ledger_makeBlock bm_Ledger_makeBlock 1 (some .int) ∈ zw_WS ∧ Cond.initialized ym_Ledger_makeBlock.cls ∈ zw_WS ∧ (ym_Ledger_makeBlock.cls ≠ "java/lang/invoke/MethodHandle" ∧ ym_Ledger_makeBlock.cls ≠ "java/lang/invoke/VarHandle" ∧ (parseMethodDescriptor ym_Ledger_makeBlock.desc).map (fun d => d.parameters.length) = some 0) := ⟨zw_mem 218 (by decide +kernel) rfl, zw_mem 28 (by decide +kernel) rfl, by decide +kernel, by decide +kernel, by decide +kernel⟩
theorem za_Ledger_makeBlock : Cond.instanceMethod ym_Ledger_makeBlock ∈ zw_WS := zw_mem 216 (by decide +kernel) rfl
theorem zb_Ledger_makeBlock : Cond.selects ym_Ledger_makeBlock.cls ym_Ledger_makeBlock ym_Ledger_makeBlock ∈ zw_WS := zw_mem 217 (by decide +kernel) rfl
def ym_Ledger_keeps : MethodName := ⟨"TwinLedgers$Ledger", "keeps", "(I)Z"⟩
abbrev bm_Ledger_keeps : ByteArray := prog_5_method_3_code
theorem zk_Ledger_keeps : Cond.code ym_Ledger_keeps bm_Ledger_keeps 2 (some .boolean) ∈ zw_WS ∧ Cond.initialized ym_Ledger_keeps.cls ∈ zw_WS ∧ (ym_Ledger_keeps.cls ≠ "java/lang/invoke/MethodHandle" ∧ ym_Ledger_keeps.cls ≠ "java/lang/invoke/VarHandle" ∧ (parseMethodDescriptor ym_Ledger_keeps.desc).map (fun d => d.parameters.length) = some 1) := ⟨zw_mem 304 (by decide +kernel) rfl, zw_mem 28 (by decide +kernel) rfl, by decide +kernel, by decide +kernel, by decide +kernel⟩
theorem za_Ledger_keeps : Cond.instanceMethod ym_Ledger_keeps ∈ zw_WS := zw_mem 302 (by decide +kernel) rfl
theorem zb_Ledger_keeps : Cond.selects ym_Ledger_keeps.cls ym_Ledger_keeps ym_Ledger_keeps ∈ zw_WS := zw_mem 303 (by decide +kernel) rfl
def ym_Ledger_rootAt : MethodName := ⟨"TwinLedgers$Ledger", "rootAt", "(I)I"⟩
abbrev bm_Ledger_rootAt : ByteArray := prog_5_method_4_code
theorem zk_Ledger_rootAt : Cond.code ym_Ledger_rootAt bm_Ledger_rootAt 2 (some .int) ∈ zw_WS ∧ Cond.initialized ym_Ledger_rootAt.cls ∈ zw_WS ∧ (ym_Ledger_rootAt.cls ≠ "java/lang/invoke/MethodHandle" ∧ ym_Ledger_rootAt.cls ≠ "java/lang/invoke/VarHandle" ∧ (parseMethodDescriptor ym_Ledger_rootAt.desc).map (fun d => d.parameters.length) = some 1) := ⟨zw_mem 475 (by decide +kernel) rfl, zw_mem 28 (by decide +kernel) rfl, by decide +kernel, by decide +kernel, by decide +kernel⟩
theorem za_Ledger_rootAt : Cond.instanceMethod ym_Ledger_rootAt ∈ zw_WS := zw_mem 473 (by decide +kernel) rfl
theorem zb_Ledger_rootAt : Cond.selects ym_Ledger_rootAt.cls ym_Ledger_rootAt ym_Ledger_rootAt ∈ zw_WS := zw_mem 474 (by decide +kernel) rfl
def ym_Ledger_stateOf : MethodName := ⟨"TwinLedgers$Ledger", "stateOf", "(I)I"⟩
abbrev bm_Ledger_stateOf : ByteArray := prog_5_method_5_code
theorem zk_Ledger_stateOf : Cond.code ym_Ledger_stateOf bm_Ledger_stateOf 2 (some .int) ∈ zw_WS ∧ Cond.initialized ym_Ledger_stateOf.cls ∈ zw_WS ∧ (ym_Ledger_stateOf.cls ≠ "java/lang/invoke/MethodHandle" ∧ ym_Ledger_stateOf.cls ≠ "java/lang/invoke/VarHandle" ∧ (parseMethodDescriptor ym_Ledger_stateOf.desc).map (fun d => d.parameters.length) = some 1) := ⟨zw_mem 254 (by decide +kernel) rfl, zw_mem 28 (by decide +kernel) rfl, by decide +kernel, by decide +kernel, by decide +kernel⟩
theorem za_Ledger_stateOf : Cond.instanceMethod ym_Ledger_stateOf ∈ zw_WS := zw_mem 252 (by decide +kernel) rfl
theorem zb_Ledger_stateOf : Cond.selects ym_Ledger_stateOf.cls ym_Ledger_stateOf ym_Ledger_stateOf ∈ zw_WS := zw_mem 253 (by decide +kernel) rfl
def ym_Ledger_orderOf : MethodName := ⟨"TwinLedgers$Ledger", "orderOf", "(I)I"⟩
abbrev bm_Ledger_orderOf : ByteArray := prog_5_method_6_code
theorem zk_Ledger_orderOf : Cond.code ym_Ledger_orderOf bm_Ledger_orderOf 2 (some .int) ∈ zw_WS ∧ Cond.initialized ym_Ledger_orderOf.cls ∈ zw_WS ∧ (ym_Ledger_orderOf.cls ≠ "java/lang/invoke/MethodHandle" ∧ ym_Ledger_orderOf.cls ≠ "java/lang/invoke/VarHandle" ∧ (parseMethodDescriptor ym_Ledger_orderOf.desc).map (fun d => d.parameters.length) = some 1) := ⟨zw_mem 284 (by decide +kernel) rfl, zw_mem 28 (by decide +kernel) rfl, by decide +kernel, by decide +kernel, by decide +kernel⟩
theorem za_Ledger_orderOf : Cond.instanceMethod ym_Ledger_orderOf ∈ zw_WS := zw_mem 282 (by decide +kernel) rfl
theorem zb_Ledger_orderOf : Cond.selects ym_Ledger_orderOf.cls ym_Ledger_orderOf ym_Ledger_orderOf ∈ zw_WS := zw_mem 283 (by decide +kernel) rfl
def ym_Ledger_isOrdered : MethodName := ⟨"TwinLedgers$Ledger", "isOrdered", "(I)Z"⟩
abbrev bm_Ledger_isOrdered : ByteArray := prog_5_method_7_code
theorem zk_Ledger_isOrdered : Cond.code ym_Ledger_isOrdered bm_Ledger_isOrdered 2 (some .boolean) ∈ zw_WS ∧ Cond.initialized ym_Ledger_isOrdered.cls ∈ zw_WS ∧ (ym_Ledger_isOrdered.cls ≠ "java/lang/invoke/MethodHandle" ∧ ym_Ledger_isOrdered.cls ≠ "java/lang/invoke/VarHandle" ∧ (parseMethodDescriptor ym_Ledger_isOrdered.desc).map (fun d => d.parameters.length) = some 1) := ⟨zw_mem 383 (by decide +kernel) rfl, zw_mem 28 (by decide +kernel) rfl, by decide +kernel, by decide +kernel, by decide +kernel⟩
theorem za_Ledger_isOrdered : Cond.instanceMethod ym_Ledger_isOrdered ∈ zw_WS := zw_mem 381 (by decide +kernel) rfl
theorem zb_Ledger_isOrdered : Cond.selects ym_Ledger_isOrdered.cls ym_Ledger_isOrdered ym_Ledger_isOrdered ∈ zw_WS := zw_mem 382 (by decide +kernel) rfl
def ym_Ledger_nextToReceive : MethodName := ⟨"TwinLedgers$Ledger", "nextToReceive", "(I)I"⟩
abbrev bm_Ledger_nextToReceive : ByteArray := prog_5_method_8_code
theorem zk_Ledger_nextToReceive : Cond.code ym_Ledger_nextToReceive bm_Ledger_nextToReceive 2 (some .int) ∈ zw_WS ∧ Cond.initialized ym_Ledger_nextToReceive.cls ∈ zw_WS ∧ (ym_Ledger_nextToReceive.cls ≠ "java/lang/invoke/MethodHandle" ∧ ym_Ledger_nextToReceive.cls ≠ "java/lang/invoke/VarHandle" ∧ (parseMethodDescriptor ym_Ledger_nextToReceive.desc).map (fun d => d.parameters.length) = some 1) := ⟨zw_mem 387 (by decide +kernel) rfl, zw_mem 28 (by decide +kernel) rfl, by decide +kernel, by decide +kernel, by decide +kernel⟩
theorem za_Ledger_nextToReceive : Cond.instanceMethod ym_Ledger_nextToReceive ∈ zw_WS := zw_mem 385 (by decide +kernel) rfl
theorem zb_Ledger_nextToReceive : Cond.selects ym_Ledger_nextToReceive.cls ym_Ledger_nextToReceive ym_Ledger_nextToReceive ∈ zw_WS := zw_mem 386 (by decide +kernel) rfl
def ym_Ledger_reach : MethodName := ⟨"TwinLedgers$Ledger", "reach", "(LTwinLedgers$Ledger;I)I"⟩
abbrev bm_Ledger_reach : ByteArray := prog_5_method_9_code
theorem zk_Ledger_reach : Cond.code ym_Ledger_reach bm_Ledger_reach 3 (some .int) ∈ zw_WS ∧ Cond.initialized ym_Ledger_reach.cls ∈ zw_WS ∧ (ym_Ledger_reach.cls ≠ "java/lang/invoke/MethodHandle" ∧ ym_Ledger_reach.cls ≠ "java/lang/invoke/VarHandle" ∧ (parseMethodDescriptor ym_Ledger_reach.desc).map (fun d => d.parameters.length) = some 2) := ⟨zw_mem 296 (by decide +kernel) rfl, zw_mem 28 (by decide +kernel) rfl, by decide +kernel, by decide +kernel, by decide +kernel⟩
theorem za_Ledger_reach : Cond.instanceMethod ym_Ledger_reach ∈ zw_WS := zw_mem 295 (by decide +kernel) rfl
theorem zb_Ledger_reach : Cond.selects ym_Ledger_reach.cls ym_Ledger_reach ym_Ledger_reach ∈ zw_WS := zw_mem 3 (by decide +kernel) rfl
def ym_Ledger_proveValue : MethodName := ⟨"TwinLedgers$Ledger", "proveValue", "(LTwinLedgers$Ledger;III)I"⟩
abbrev bm_Ledger_proveValue : ByteArray := prog_5_method_10_code
theorem zk_Ledger_proveValue : Cond.code ym_Ledger_proveValue bm_Ledger_proveValue 7 (some .int) ∈ zw_WS ∧ Cond.initialized ym_Ledger_proveValue.cls ∈ zw_WS ∧ (ym_Ledger_proveValue.cls ≠ "java/lang/invoke/MethodHandle" ∧ ym_Ledger_proveValue.cls ≠ "java/lang/invoke/VarHandle" ∧ (parseMethodDescriptor ym_Ledger_proveValue.desc).map (fun d => d.parameters.length) = some 4) := ⟨zw_mem 292 (by decide +kernel) rfl, zw_mem 28 (by decide +kernel) rfl, by decide +kernel, by decide +kernel, by decide +kernel⟩
theorem za_Ledger_proveValue : Cond.instanceMethod ym_Ledger_proveValue ∈ zw_WS := zw_mem 291 (by decide +kernel) rfl
theorem zb_Ledger_proveValue : Cond.selects ym_Ledger_proveValue.cls ym_Ledger_proveValue ym_Ledger_proveValue ∈ zw_WS := zw_mem 2 (by decide +kernel) rfl
def ym_Ledger_proveAbsence : MethodName := ⟨"TwinLedgers$Ledger", "proveAbsence", "(LTwinLedgers$Ledger;II)I"⟩
abbrev bm_Ledger_proveAbsence : ByteArray := prog_5_method_11_code
theorem zk_Ledger_proveAbsence : Cond.code ym_Ledger_proveAbsence bm_Ledger_proveAbsence 5 (some .int) ∈ zw_WS ∧ Cond.initialized ym_Ledger_proveAbsence.cls ∈ zw_WS ∧ (ym_Ledger_proveAbsence.cls ≠ "java/lang/invoke/MethodHandle" ∧ ym_Ledger_proveAbsence.cls ≠ "java/lang/invoke/VarHandle" ∧ (parseMethodDescriptor ym_Ledger_proveAbsence.desc).map (fun d => d.parameters.length) = some 3) := ⟨zw_mem 450 (by decide +kernel) rfl, zw_mem 28 (by decide +kernel) rfl, by decide +kernel, by decide +kernel, by decide +kernel⟩
theorem za_Ledger_proveAbsence : Cond.instanceMethod ym_Ledger_proveAbsence ∈ zw_WS := zw_mem 449 (by decide +kernel) rfl
theorem zb_Ledger_proveAbsence : Cond.selects ym_Ledger_proveAbsence.cls ym_Ledger_proveAbsence ym_Ledger_proveAbsence ∈ zw_WS := zw_mem 13 (by decide +kernel) rfl
def ym_Ledger_proveEnd : MethodName := ⟨"TwinLedgers$Ledger", "proveEnd", "(LTwinLedgers$Ledger;IIII)I"⟩
abbrev bm_Ledger_proveEnd : ByteArray := prog_5_method_12_code
theorem zk_Ledger_proveEnd : Cond.code ym_Ledger_proveEnd bm_Ledger_proveEnd 6 (some .int) ∈ zw_WS ∧ Cond.initialized ym_Ledger_proveEnd.cls ∈ zw_WS ∧ (ym_Ledger_proveEnd.cls ≠ "java/lang/invoke/MethodHandle" ∧ ym_Ledger_proveEnd.cls ≠ "java/lang/invoke/VarHandle" ∧ (parseMethodDescriptor ym_Ledger_proveEnd.desc).map (fun d => d.parameters.length) = some 5) := ⟨zw_mem 288 (by decide +kernel) rfl, zw_mem 28 (by decide +kernel) rfl, by decide +kernel, by decide +kernel, by decide +kernel⟩
theorem za_Ledger_proveEnd : Cond.instanceMethod ym_Ledger_proveEnd ∈ zw_WS := zw_mem 287 (by decide +kernel) rfl
theorem zb_Ledger_proveEnd : Cond.selects ym_Ledger_proveEnd.cls ym_Ledger_proveEnd ym_Ledger_proveEnd ∈ zw_WS := zw_mem 1 (by decide +kernel) rfl
def ym_Ledger_startEnd : MethodName := ⟨"TwinLedgers$Ledger", "startEnd", "(IZ)I"⟩
abbrev bm_Ledger_startEnd : ByteArray := prog_5_method_13_code
theorem zk_Ledger_startEnd : Cond.code ym_Ledger_startEnd bm_Ledger_startEnd 3 (some .int) ∈ zw_WS ∧ Cond.initialized ym_Ledger_startEnd.cls ∈ zw_WS ∧ (ym_Ledger_startEnd.cls ≠ "java/lang/invoke/MethodHandle" ∧ ym_Ledger_startEnd.cls ≠ "java/lang/invoke/VarHandle" ∧ (parseMethodDescriptor ym_Ledger_startEnd.desc).map (fun d => d.parameters.length) = some 2) := ⟨zw_mem 250 (by decide +kernel) rfl, zw_mem 28 (by decide +kernel) rfl, by decide +kernel, by decide +kernel, by decide +kernel⟩
theorem za_Ledger_startEnd : Cond.instanceMethod ym_Ledger_startEnd ∈ zw_WS := zw_mem 248 (by decide +kernel) rfl
theorem zb_Ledger_startEnd : Cond.selects ym_Ledger_startEnd.cls ym_Ledger_startEnd ym_Ledger_startEnd ∈ zw_WS := zw_mem 249 (by decide +kernel) rfl
def ym_Ledger_makeEnd : MethodName := ⟨"TwinLedgers$Ledger", "makeEnd", "(III)V"⟩
abbrev bm_Ledger_makeEnd : ByteArray := prog_5_method_14_code
theorem zk_Ledger_makeEnd : Cond.code ym_Ledger_makeEnd bm_Ledger_makeEnd 4 none ∈ zw_WS ∧ Cond.initialized ym_Ledger_makeEnd.cls ∈ zw_WS ∧ (ym_Ledger_makeEnd.cls ≠ "java/lang/invoke/MethodHandle" ∧ ym_Ledger_makeEnd.cls ≠ "java/lang/invoke/VarHandle" ∧ (parseMethodDescriptor ym_Ledger_makeEnd.desc).map (fun d => d.parameters.length) = some 3) := ⟨zw_mem 265 (by decide +kernel) rfl, zw_mem 28 (by decide +kernel) rfl, by decide +kernel, by decide +kernel, by decide +kernel⟩
theorem za_Ledger_makeEnd : Cond.instanceMethod ym_Ledger_makeEnd ∈ zw_WS := zw_mem 264 (by decide +kernel) rfl
theorem zb_Ledger_makeEnd : Cond.selects ym_Ledger_makeEnd.cls ym_Ledger_makeEnd ym_Ledger_makeEnd ∈ zw_WS := zw_mem 0 (by decide +kernel) rfl
def ym_Ledger_tryEnd : MethodName := ⟨"TwinLedgers$Ledger", "tryEnd", "(LTwinLedgers$Ledger;IZI)I"⟩
abbrev bm_Ledger_tryEnd : ByteArray := prog_5_method_15_code
theorem zk_Ledger_tryEnd : Cond.code ym_Ledger_tryEnd bm_Ledger_tryEnd 8 (some .int) ∈ zw_WS ∧ Cond.initialized ym_Ledger_tryEnd.cls ∈ zw_WS ∧ (ym_Ledger_tryEnd.cls ≠ "java/lang/invoke/MethodHandle" ∧ ym_Ledger_tryEnd.cls ≠ "java/lang/invoke/VarHandle" ∧ (parseMethodDescriptor ym_Ledger_tryEnd.desc).map (fun d => d.parameters.length) = some 4) := ⟨zw_mem 280 (by decide +kernel) rfl, zw_mem 28 (by decide +kernel) rfl, by decide +kernel, by decide +kernel, by decide +kernel⟩
theorem za_Ledger_tryEnd : Cond.instanceMethod ym_Ledger_tryEnd ∈ zw_WS := zw_mem 278 (by decide +kernel) rfl
theorem zb_Ledger_tryEnd : Cond.selects ym_Ledger_tryEnd.cls ym_Ledger_tryEnd ym_Ledger_tryEnd ∈ zw_WS := zw_mem 279 (by decide +kernel) rfl
def ym_Ledger_followEnd : MethodName := ⟨"TwinLedgers$Ledger", "followEnd", "(LTwinLedgers$Ledger;IIIII)I"⟩
abbrev bm_Ledger_followEnd : ByteArray := prog_5_method_16_code
theorem zk_Ledger_followEnd : Cond.code ym_Ledger_followEnd bm_Ledger_followEnd 8 (some .int) ∈ zw_WS ∧ Cond.initialized ym_Ledger_followEnd.cls ∈ zw_WS ∧ (ym_Ledger_followEnd.cls ≠ "java/lang/invoke/MethodHandle" ∧ ym_Ledger_followEnd.cls ≠ "java/lang/invoke/VarHandle" ∧ (parseMethodDescriptor ym_Ledger_followEnd.desc).map (fun d => d.parameters.length) = some 6) := ⟨zw_mem 316 (by decide +kernel) rfl, zw_mem 28 (by decide +kernel) rfl, by decide +kernel, by decide +kernel, by decide +kernel⟩
theorem za_Ledger_followEnd : Cond.instanceMethod ym_Ledger_followEnd ∈ zw_WS := zw_mem 314 (by decide +kernel) rfl
theorem zb_Ledger_followEnd : Cond.selects ym_Ledger_followEnd.cls ym_Ledger_followEnd ym_Ledger_followEnd ∈ zw_WS := zw_mem 315 (by decide +kernel) rfl
def ym_Ledger_closeEnd : MethodName := ⟨"TwinLedgers$Ledger", "closeEnd", "(I)I"⟩
abbrev bm_Ledger_closeEnd : ByteArray := prog_5_method_17_code
theorem zk_Ledger_closeEnd : Cond.code ym_Ledger_closeEnd bm_Ledger_closeEnd 2 (some .int) ∈ zw_WS ∧ Cond.initialized ym_Ledger_closeEnd.cls ∈ zw_WS ∧ (ym_Ledger_closeEnd.cls ≠ "java/lang/invoke/MethodHandle" ∧ ym_Ledger_closeEnd.cls ≠ "java/lang/invoke/VarHandle" ∧ (parseMethodDescriptor ym_Ledger_closeEnd.desc).map (fun d => d.parameters.length) = some 1) := ⟨zw_mem 328 (by decide +kernel) rfl, zw_mem 28 (by decide +kernel) rfl, by decide +kernel, by decide +kernel, by decide +kernel⟩
theorem za_Ledger_closeEnd : Cond.instanceMethod ym_Ledger_closeEnd ∈ zw_WS := zw_mem 326 (by decide +kernel) rfl
theorem zb_Ledger_closeEnd : Cond.selects ym_Ledger_closeEnd.cls ym_Ledger_closeEnd ym_Ledger_closeEnd ∈ zw_WS := zw_mem 327 (by decide +kernel) rfl
def ym_Ledger_moveEnd : MethodName := ⟨"TwinLedgers$Ledger", "moveEnd", "(II)V"⟩
abbrev bm_Ledger_moveEnd : ByteArray := prog_5_method_18_code
theorem zk_Ledger_moveEnd : Cond.code ym_Ledger_moveEnd bm_Ledger_moveEnd 3 none ∈ zw_WS ∧ Cond.initialized ym_Ledger_moveEnd.cls ∈ zw_WS ∧ (ym_Ledger_moveEnd.cls ≠ "java/lang/invoke/MethodHandle" ∧ ym_Ledger_moveEnd.cls ≠ "java/lang/invoke/VarHandle" ∧ (parseMethodDescriptor ym_Ledger_moveEnd.desc).map (fun d => d.parameters.length) = some 2) := ⟨zw_mem 320 (by decide +kernel) rfl, zw_mem 28 (by decide +kernel) rfl, by decide +kernel, by decide +kernel, by decide +kernel⟩
theorem za_Ledger_moveEnd : Cond.instanceMethod ym_Ledger_moveEnd ∈ zw_WS := zw_mem 319 (by decide +kernel) rfl
theorem zb_Ledger_moveEnd : Cond.selects ym_Ledger_moveEnd.cls ym_Ledger_moveEnd ym_Ledger_moveEnd ∈ zw_WS := zw_mem 4 (by decide +kernel) rfl
def ym_Ledger_sendPacket : MethodName := ⟨"TwinLedgers$Ledger", "sendPacket", "(IIIII)I"⟩
abbrev bm_Ledger_sendPacket : ByteArray := prog_5_method_19_code
theorem zk_Ledger_sendPacket : Cond.code ym_Ledger_sendPacket bm_Ledger_sendPacket 9 (some .int) ∈ zw_WS ∧ Cond.initialized ym_Ledger_sendPacket.cls ∈ zw_WS ∧ (ym_Ledger_sendPacket.cls ≠ "java/lang/invoke/MethodHandle" ∧ ym_Ledger_sendPacket.cls ≠ "java/lang/invoke/VarHandle" ∧ (parseMethodDescriptor ym_Ledger_sendPacket.desc).map (fun d => d.parameters.length) = some 5) := ⟨zw_mem 340 (by decide +kernel) rfl, zw_mem 28 (by decide +kernel) rfl, by decide +kernel, by decide +kernel, by decide +kernel⟩
theorem za_Ledger_sendPacket : Cond.instanceMethod ym_Ledger_sendPacket ∈ zw_WS := zw_mem 338 (by decide +kernel) rfl
theorem zb_Ledger_sendPacket : Cond.selects ym_Ledger_sendPacket.cls ym_Ledger_sendPacket ym_Ledger_sendPacket ∈ zw_WS := zw_mem 339 (by decide +kernel) rfl
def ym_Ledger_receivePacket : MethodName := ⟨"TwinLedgers$Ledger", "receivePacket", "(LTwinLedgers$Ledger;IIIZ)I"⟩
abbrev bm_Ledger_receivePacket : ByteArray := prog_5_method_20_code
theorem zk_Ledger_receivePacket : Cond.code ym_Ledger_receivePacket bm_Ledger_receivePacket 10 (some .int) ∈ zw_WS ∧ Cond.initialized ym_Ledger_receivePacket.cls ∈ zw_WS ∧ (ym_Ledger_receivePacket.cls ≠ "java/lang/invoke/MethodHandle" ∧ ym_Ledger_receivePacket.cls ≠ "java/lang/invoke/VarHandle" ∧ (parseMethodDescriptor ym_Ledger_receivePacket.desc).map (fun d => d.parameters.length) = some 5) := ⟨zw_mem 375 (by decide +kernel) rfl, zw_mem 28 (by decide +kernel) rfl, by decide +kernel, by decide +kernel, by decide +kernel⟩
theorem za_Ledger_receivePacket : Cond.instanceMethod ym_Ledger_receivePacket ∈ zw_WS := zw_mem 373 (by decide +kernel) rfl
theorem zb_Ledger_receivePacket : Cond.selects ym_Ledger_receivePacket.cls ym_Ledger_receivePacket ym_Ledger_receivePacket ∈ zw_WS := zw_mem 374 (by decide +kernel) rfl
def ym_Ledger_isReceivable : MethodName := ⟨"TwinLedgers$Ledger", "isReceivable", "(II)Z"⟩
abbrev bm_Ledger_isReceivable : ByteArray := prog_5_method_21_code
theorem zk_Ledger_isReceivable : Cond.code ym_Ledger_isReceivable bm_Ledger_isReceivable 3 (some .boolean) ∈ zw_WS ∧ Cond.initialized ym_Ledger_isReceivable.cls ∈ zw_WS ∧ (ym_Ledger_isReceivable.cls ≠ "java/lang/invoke/MethodHandle" ∧ ym_Ledger_isReceivable.cls ≠ "java/lang/invoke/VarHandle" ∧ (parseMethodDescriptor ym_Ledger_isReceivable.desc).map (fun d => d.parameters.length) = some 2) := ⟨zw_mem 379 (by decide +kernel) rfl, zw_mem 28 (by decide +kernel) rfl, by decide +kernel, by decide +kernel, by decide +kernel⟩
theorem za_Ledger_isReceivable : Cond.instanceMethod ym_Ledger_isReceivable ∈ zw_WS := zw_mem 378 (by decide +kernel) rfl
theorem zb_Ledger_isReceivable : Cond.selects ym_Ledger_isReceivable.cls ym_Ledger_isReceivable ym_Ledger_isReceivable ∈ zw_WS := zw_mem 6 (by decide +kernel) rfl
def ym_Ledger_noteReceived : MethodName := ⟨"TwinLedgers$Ledger", "noteReceived", "(III)V"⟩
abbrev bm_Ledger_noteReceived : ByteArray := prog_5_method_22_code
theorem zk_Ledger_noteReceived : Cond.code ym_Ledger_noteReceived bm_Ledger_noteReceived 4 none ∈ zw_WS ∧ Cond.initialized ym_Ledger_noteReceived.cls ∈ zw_WS ∧ (ym_Ledger_noteReceived.cls ≠ "java/lang/invoke/MethodHandle" ∧ ym_Ledger_noteReceived.cls ≠ "java/lang/invoke/VarHandle" ∧ (parseMethodDescriptor ym_Ledger_noteReceived.desc).map (fun d => d.parameters.length) = some 3) := ⟨zw_mem 411 (by decide +kernel) rfl, zw_mem 28 (by decide +kernel) rfl, by decide +kernel, by decide +kernel, by decide +kernel⟩
theorem za_Ledger_noteReceived : Cond.instanceMethod ym_Ledger_noteReceived ∈ zw_WS := zw_mem 410 (by decide +kernel) rfl
theorem zb_Ledger_noteReceived : Cond.selects ym_Ledger_noteReceived.cls ym_Ledger_noteReceived ym_Ledger_noteReceived ∈ zw_WS := zw_mem 10 (by decide +kernel) rfl
def ym_Ledger_settleAnswered : MethodName := ⟨"TwinLedgers$Ledger", "settleAnswered", "(LTwinLedgers$Ledger;III)I"⟩
abbrev bm_Ledger_settleAnswered : ByteArray := prog_5_method_23_code
theorem zk_Ledger_settleAnswered : Cond.code ym_Ledger_settleAnswered bm_Ledger_settleAnswered 10 (some .int) ∈ zw_WS ∧ Cond.initialized ym_Ledger_settleAnswered.cls ∈ zw_WS ∧ (ym_Ledger_settleAnswered.cls ≠ "java/lang/invoke/MethodHandle" ∧ ym_Ledger_settleAnswered.cls ≠ "java/lang/invoke/VarHandle" ∧ (parseMethodDescriptor ym_Ledger_settleAnswered.desc).map (fun d => d.parameters.length) = some 4) := ⟨zw_mem 422 (by decide +kernel) rfl, zw_mem 28 (by decide +kernel) rfl, by decide +kernel, by decide +kernel, by decide +kernel⟩
theorem za_Ledger_settleAnswered : Cond.instanceMethod ym_Ledger_settleAnswered ∈ zw_WS := zw_mem 420 (by decide +kernel) rfl
theorem zb_Ledger_settleAnswered : Cond.selects ym_Ledger_settleAnswered.cls ym_Ledger_settleAnswered ym_Ledger_settleAnswered ∈ zw_WS := zw_mem 421 (by decide +kernel) rfl
def ym_Ledger_settleTimedOut : MethodName := ⟨"TwinLedgers$Ledger", "settleTimedOut", "(LTwinLedgers$Ledger;IIIZ)I"⟩
abbrev bm_Ledger_settleTimedOut : ByteArray := prog_5_method_24_code
theorem zk_Ledger_settleTimedOut : Cond.code ym_Ledger_settleTimedOut bm_Ledger_settleTimedOut 8 (some .int) ∈ zw_WS ∧ Cond.initialized ym_Ledger_settleTimedOut.cls ∈ zw_WS ∧ (ym_Ledger_settleTimedOut.cls ≠ "java/lang/invoke/MethodHandle" ∧ ym_Ledger_settleTimedOut.cls ≠ "java/lang/invoke/VarHandle" ∧ (parseMethodDescriptor ym_Ledger_settleTimedOut.desc).map (fun d => d.parameters.length) = some 5) := ⟨zw_mem 442 (by decide +kernel) rfl, zw_mem 28 (by decide +kernel) rfl, by decide +kernel, by decide +kernel, by decide +kernel⟩
theorem za_Ledger_settleTimedOut : Cond.instanceMethod ym_Ledger_settleTimedOut ∈ zw_WS := zw_mem 440 (by decide +kernel) rfl
theorem zb_Ledger_settleTimedOut : Cond.selects ym_Ledger_settleTimedOut.cls ym_Ledger_settleTimedOut ym_Ledger_settleTimedOut ∈ zw_WS := zw_mem 441 (by decide +kernel) rfl
def ym_Ledger_proveNotReceived : MethodName := ⟨"TwinLedgers$Ledger", "proveNotReceived", "(LTwinLedgers$Ledger;III)I"⟩
abbrev bm_Ledger_proveNotReceived : ByteArray := prog_5_method_25_code
theorem zk_Ledger_proveNotReceived : Cond.code ym_Ledger_proveNotReceived bm_Ledger_proveNotReceived 6 (some .int) ∈ zw_WS ∧ Cond.initialized ym_Ledger_proveNotReceived.cls ∈ zw_WS ∧ (ym_Ledger_proveNotReceived.cls ≠ "java/lang/invoke/MethodHandle" ∧ ym_Ledger_proveNotReceived.cls ≠ "java/lang/invoke/VarHandle" ∧ (parseMethodDescriptor ym_Ledger_proveNotReceived.desc).map (fun d => d.parameters.length) = some 4) := ⟨zw_mem 446 (by decide +kernel) rfl, zw_mem 28 (by decide +kernel) rfl, by decide +kernel, by decide +kernel, by decide +kernel⟩
theorem za_Ledger_proveNotReceived : Cond.instanceMethod ym_Ledger_proveNotReceived ∈ zw_WS := zw_mem 445 (by decide +kernel) rfl
theorem zb_Ledger_proveNotReceived : Cond.selects ym_Ledger_proveNotReceived.cls ym_Ledger_proveNotReceived ym_Ledger_proveNotReceived ∈ zw_WS := zw_mem 12 (by decide +kernel) rfl
def ym_Ledger_settle : MethodName := ⟨"TwinLedgers$Ledger", "settle", "(III)V"⟩
abbrev bm_Ledger_settle : ByteArray := prog_5_method_26_code
theorem zk_Ledger_settle : Cond.code ym_Ledger_settle bm_Ledger_settle 5 none ∈ zw_WS ∧ Cond.initialized ym_Ledger_settle.cls ∈ zw_WS ∧ (ym_Ledger_settle.cls ≠ "java/lang/invoke/MethodHandle" ∧ ym_Ledger_settle.cls ≠ "java/lang/invoke/VarHandle" ∧ (parseMethodDescriptor ym_Ledger_settle.desc).map (fun d => d.parameters.length) = some 3) := ⟨zw_mem 426 (by decide +kernel) rfl, zw_mem 28 (by decide +kernel) rfl, by decide +kernel, by decide +kernel, by decide +kernel⟩
theorem za_Ledger_settle : Cond.instanceMethod ym_Ledger_settle ∈ zw_WS := zw_mem 425 (by decide +kernel) rfl
theorem zb_Ledger_settle : Cond.selects ym_Ledger_settle.cls ym_Ledger_settle ym_Ledger_settle ∈ zw_WS := zw_mem 11 (by decide +kernel) rfl
def ym_Store_ctor : MethodName := ⟨"TwinLedgers$Store", "<init>", "()V"⟩
abbrev bm_Store_ctor : ByteArray := prog_7_method_1_code
theorem zk_Store_ctor : Cond.code ym_Store_ctor bm_Store_ctor 1 none ∈ zw_WS ∧ Cond.initialized ym_Store_ctor.cls ∈ zw_WS ∧ (ym_Store_ctor.cls ≠ "java/lang/invoke/MethodHandle" ∧ ym_Store_ctor.cls ≠ "java/lang/invoke/VarHandle" ∧ (parseMethodDescriptor ym_Store_ctor.desc).map (fun d => d.parameters.length) = some 0) := ⟨zw_mem 56 (by decide +kernel) rfl, zw_mem 29 (by decide +kernel) rfl, by decide +kernel, by decide +kernel, by decide +kernel⟩
theorem za_Store_ctor : Cond.instanceMethod ym_Store_ctor ∈ zw_WS := zw_mem 55 (by decide +kernel) rfl
def ym_Store_endSlot : MethodName := ⟨"TwinLedgers$Store", "endSlot", "(I)I"⟩
abbrev bm_Store_endSlot : ByteArray := prog_7_method_2_code
theorem zk_Store_endSlot : Cond.code ym_Store_endSlot bm_Store_endSlot 1 (some .int) ∈ zw_WS ∧ Cond.initialized ym_Store_endSlot.cls ∈ zw_WS ∧ (ym_Store_endSlot.cls ≠ "java/lang/invoke/MethodHandle" ∧ ym_Store_endSlot.cls ≠ "java/lang/invoke/VarHandle" ∧ (parseMethodDescriptor ym_Store_endSlot.desc).map (fun d => d.parameters.length) = some 1) := ⟨zw_mem 257 (by decide +kernel) rfl, zw_mem 29 (by decide +kernel) rfl, by decide +kernel, by decide +kernel, by decide +kernel⟩
theorem za_Store_endSlot : Cond.static ym_Store_endSlot ∈ zw_WS := zw_mem 256 (by decide +kernel) rfl
def ym_Store_nextSlot : MethodName := ⟨"TwinLedgers$Store", "nextSlot", "(I)I"⟩
abbrev bm_Store_nextSlot : ByteArray := prog_7_method_3_code
theorem zk_Store_nextSlot : Cond.code ym_Store_nextSlot bm_Store_nextSlot 1 (some .int) ∈ zw_WS ∧ Cond.initialized ym_Store_nextSlot.cls ∈ zw_WS ∧ (ym_Store_nextSlot.cls ≠ "java/lang/invoke/MethodHandle" ∧ ym_Store_nextSlot.cls ≠ "java/lang/invoke/VarHandle" ∧ (parseMethodDescriptor ym_Store_nextSlot.desc).map (fun d => d.parameters.length) = some 1) := ⟨zw_mem 272 (by decide +kernel) rfl, zw_mem 29 (by decide +kernel) rfl, by decide +kernel, by decide +kernel, by decide +kernel⟩
theorem za_Store_nextSlot : Cond.static ym_Store_nextSlot ∈ zw_WS := zw_mem 271 (by decide +kernel) rfl
def ym_Store_printSlot : MethodName := ⟨"TwinLedgers$Store", "printSlot", "(II)I"⟩
abbrev bm_Store_printSlot : ByteArray := prog_7_method_4_code
theorem zk_Store_printSlot : Cond.code ym_Store_printSlot bm_Store_printSlot 2 (some .int) ∈ zw_WS ∧ Cond.initialized ym_Store_printSlot.cls ∈ zw_WS ∧ (ym_Store_printSlot.cls ≠ "java/lang/invoke/MethodHandle" ∧ ym_Store_printSlot.cls ≠ "java/lang/invoke/VarHandle" ∧ (parseMethodDescriptor ym_Store_printSlot.desc).map (fun d => d.parameters.length) = some 2) := ⟨zw_mem 355 (by decide +kernel) rfl, zw_mem 29 (by decide +kernel) rfl, by decide +kernel, by decide +kernel, by decide +kernel⟩
theorem za_Store_printSlot : Cond.static ym_Store_printSlot ∈ zw_WS := zw_mem 354 (by decide +kernel) rfl
def ym_Store_receiptSlot : MethodName := ⟨"TwinLedgers$Store", "receiptSlot", "(II)I"⟩
abbrev bm_Store_receiptSlot : ByteArray := prog_7_method_5_code
theorem zk_Store_receiptSlot : Cond.code ym_Store_receiptSlot bm_Store_receiptSlot 2 (some .int) ∈ zw_WS ∧ Cond.initialized ym_Store_receiptSlot.cls ∈ zw_WS ∧ (ym_Store_receiptSlot.cls ≠ "java/lang/invoke/MethodHandle" ∧ ym_Store_receiptSlot.cls ≠ "java/lang/invoke/VarHandle" ∧ (parseMethodDescriptor ym_Store_receiptSlot.desc).map (fun d => d.parameters.length) = some 2) := ⟨zw_mem 391 (by decide +kernel) rfl, zw_mem 29 (by decide +kernel) rfl, by decide +kernel, by decide +kernel, by decide +kernel⟩
theorem za_Store_receiptSlot : Cond.static ym_Store_receiptSlot ∈ zw_WS := zw_mem 390 (by decide +kernel) rfl
def ym_Store_answerSlot : MethodName := ⟨"TwinLedgers$Store", "answerSlot", "(II)I"⟩
abbrev bm_Store_answerSlot : ByteArray := prog_7_method_6_code
theorem zk_Store_answerSlot : Cond.code ym_Store_answerSlot bm_Store_answerSlot 2 (some .int) ∈ zw_WS ∧ Cond.initialized ym_Store_answerSlot.cls ∈ zw_WS ∧ (ym_Store_answerSlot.cls ≠ "java/lang/invoke/MethodHandle" ∧ ym_Store_answerSlot.cls ≠ "java/lang/invoke/VarHandle" ∧ (parseMethodDescriptor ym_Store_answerSlot.desc).map (fun d => d.parameters.length) = some 2) := ⟨zw_mem 414 (by decide +kernel) rfl, zw_mem 29 (by decide +kernel) rfl, by decide +kernel, by decide +kernel, by decide +kernel⟩
theorem za_Store_answerSlot : Cond.static ym_Store_answerSlot ∈ zw_WS := zw_mem 413 (by decide +kernel) rfl
def ym_Store_keyOf : MethodName := ⟨"TwinLedgers$Store", "keyOf", "(I)I"⟩
abbrev bm_Store_keyOf : ByteArray := prog_7_method_7_code
theorem zk_Store_keyOf : Cond.code ym_Store_keyOf bm_Store_keyOf 5 (some .int) ∈ zw_WS ∧ Cond.initialized ym_Store_keyOf.cls ∈ zw_WS ∧ (ym_Store_keyOf.cls ≠ "java/lang/invoke/MethodHandle" ∧ ym_Store_keyOf.cls ≠ "java/lang/invoke/VarHandle" ∧ (parseMethodDescriptor ym_Store_keyOf.desc).map (fun d => d.parameters.length) = some 1) := ⟨zw_mem 482 (by decide +kernel) rfl, zw_mem 29 (by decide +kernel) rfl, by decide +kernel, by decide +kernel, by decide +kernel⟩
theorem za_Store_keyOf : Cond.static ym_Store_keyOf ∈ zw_WS := zw_mem 481 (by decide +kernel) rfl
def ym_Store_put : MethodName := ⟨"TwinLedgers$Store", "put", "(II)V"⟩
abbrev bm_Store_put : ByteArray := prog_7_method_8_code
theorem zk_Store_put : Cond.code ym_Store_put bm_Store_put 3 none ∈ zw_WS ∧ Cond.initialized ym_Store_put.cls ∈ zw_WS ∧ (ym_Store_put.cls ≠ "java/lang/invoke/MethodHandle" ∧ ym_Store_put.cls ≠ "java/lang/invoke/VarHandle" ∧ (parseMethodDescriptor ym_Store_put.desc).map (fun d => d.parameters.length) = some 2) := ⟨zw_mem 269 (by decide +kernel) rfl, zw_mem 29 (by decide +kernel) rfl, by decide +kernel, by decide +kernel, by decide +kernel⟩
theorem za_Store_put : Cond.instanceMethod ym_Store_put ∈ zw_WS := zw_mem 267 (by decide +kernel) rfl
theorem zb_Store_put : Cond.selects ym_Store_put.cls ym_Store_put ym_Store_put ∈ zw_WS := zw_mem 268 (by decide +kernel) rfl
def ym_Store_drop : MethodName := ⟨"TwinLedgers$Store", "drop", "(I)V"⟩
abbrev bm_Store_drop : ByteArray := prog_7_method_9_code
theorem zk_Store_drop : Cond.code ym_Store_drop bm_Store_drop 2 none ∈ zw_WS ∧ Cond.initialized ym_Store_drop.cls ∈ zw_WS ∧ (ym_Store_drop.cls ≠ "java/lang/invoke/MethodHandle" ∧ ym_Store_drop.cls ≠ "java/lang/invoke/VarHandle" ∧ (parseMethodDescriptor ym_Store_drop.desc).map (fun d => d.parameters.length) = some 1) := ⟨zw_mem 430 (by decide +kernel) rfl, zw_mem 29 (by decide +kernel) rfl, by decide +kernel, by decide +kernel, by decide +kernel⟩
theorem za_Store_drop : Cond.instanceMethod ym_Store_drop ∈ zw_WS := zw_mem 428 (by decide +kernel) rfl
theorem zb_Store_drop : Cond.selects ym_Store_drop.cls ym_Store_drop ym_Store_drop ∈ zw_WS := zw_mem 429 (by decide +kernel) rfl
def ym_Store_has : MethodName := ⟨"TwinLedgers$Store", "has", "(I)Z"⟩
abbrev bm_Store_has : ByteArray := prog_7_method_10_code
theorem zk_Store_has : Cond.code ym_Store_has bm_Store_has 2 (some .boolean) ∈ zw_WS ∧ Cond.initialized ym_Store_has.cls ∈ zw_WS ∧ (ym_Store_has.cls ≠ "java/lang/invoke/MethodHandle" ∧ ym_Store_has.cls ≠ "java/lang/invoke/VarHandle" ∧ (parseMethodDescriptor ym_Store_has.desc).map (fun d => d.parameters.length) = some 1) := ⟨zw_mem 308 (by decide +kernel) rfl, zw_mem 29 (by decide +kernel) rfl, by decide +kernel, by decide +kernel, by decide +kernel⟩
theorem za_Store_has : Cond.instanceMethod ym_Store_has ∈ zw_WS := zw_mem 306 (by decide +kernel) rfl
theorem zb_Store_has : Cond.selects ym_Store_has.cls ym_Store_has ym_Store_has ∈ zw_WS := zw_mem 307 (by decide +kernel) rfl
def ym_Store_valueIn : MethodName := ⟨"TwinLedgers$Store", "valueIn", "(I)I"⟩
abbrev bm_Store_valueIn : ByteArray := prog_7_method_11_code
theorem zk_Store_valueIn : Cond.code ym_Store_valueIn bm_Store_valueIn 2 (some .int) ∈ zw_WS ∧ Cond.initialized ym_Store_valueIn.cls ∈ zw_WS ∧ (ym_Store_valueIn.cls ≠ "java/lang/invoke/MethodHandle" ∧ ym_Store_valueIn.cls ≠ "java/lang/invoke/VarHandle" ∧ (parseMethodDescriptor ym_Store_valueIn.desc).map (fun d => d.parameters.length) = some 1) := ⟨zw_mem 261 (by decide +kernel) rfl, zw_mem 29 (by decide +kernel) rfl, by decide +kernel, by decide +kernel, by decide +kernel⟩
theorem za_Store_valueIn : Cond.instanceMethod ym_Store_valueIn ∈ zw_WS := zw_mem 259 (by decide +kernel) rfl
theorem zb_Store_valueIn : Cond.selects ym_Store_valueIn.cls ym_Store_valueIn ym_Store_valueIn ∈ zw_WS := zw_mem 260 (by decide +kernel) rfl
def ym_Store_copyFrom : MethodName := ⟨"TwinLedgers$Store", "copyFrom", "(LTwinLedgers$Store;)V"⟩
abbrev bm_Store_copyFrom : ByteArray := prog_7_method_12_code
theorem zk_Store_copyFrom : Cond.code ym_Store_copyFrom bm_Store_copyFrom 3 none ∈ zw_WS ∧ Cond.initialized ym_Store_copyFrom.cls ∈ zw_WS ∧ (ym_Store_copyFrom.cls ≠ "java/lang/invoke/MethodHandle" ∧ ym_Store_copyFrom.cls ≠ "java/lang/invoke/VarHandle" ∧ (parseMethodDescriptor ym_Store_copyFrom.desc).map (fun d => d.parameters.length) = some 1) := ⟨zw_mem 222 (by decide +kernel) rfl, zw_mem 29 (by decide +kernel) rfl, by decide +kernel, by decide +kernel, by decide +kernel⟩
theorem za_Store_copyFrom : Cond.instanceMethod ym_Store_copyFrom ∈ zw_WS := zw_mem 220 (by decide +kernel) rfl
theorem zb_Store_copyFrom : Cond.selects ym_Store_copyFrom.cls ym_Store_copyFrom ym_Store_copyFrom ∈ zw_WS := zw_mem 221 (by decide +kernel) rfl
def ym_Store_rootBy : MethodName := ⟨"TwinLedgers$Store", "rootBy", "([I)I"⟩
abbrev bm_Store_rootBy : ByteArray := prog_7_method_13_code
theorem zk_Store_rootBy : Cond.code ym_Store_rootBy bm_Store_rootBy 5 (some .int) ∈ zw_WS ∧ Cond.initialized ym_Store_rootBy.cls ∈ zw_WS ∧ (ym_Store_rootBy.cls ≠ "java/lang/invoke/MethodHandle" ∧ ym_Store_rootBy.cls ≠ "java/lang/invoke/VarHandle" ∧ (parseMethodDescriptor ym_Store_rootBy.desc).map (fun d => d.parameters.length) = some 1) := ⟨zw_mem 479 (by decide +kernel) rfl, zw_mem 29 (by decide +kernel) rfl, by decide +kernel, by decide +kernel, by decide +kernel⟩
theorem za_Store_rootBy : Cond.instanceMethod ym_Store_rootBy ∈ zw_WS := zw_mem 477 (by decide +kernel) rfl
theorem zb_Store_rootBy : Cond.selects ym_Store_rootBy.cls ym_Store_rootBy ym_Store_rootBy ∈ zw_WS := zw_mem 478 (by decide +kernel) rfl
def ym_Client_ctor : MethodName := ⟨"TwinLedgers$Client", "<init>", "()V"⟩
abbrev bm_Client_ctor : ByteArray := prog_3_method_1_code
theorem zk_Client_ctor : Cond.code ym_Client_ctor bm_Client_ctor 1 none ∈ zw_WS ∧ Cond.initialized ym_Client_ctor.cls ∈ zw_WS ∧ (ym_Client_ctor.cls ≠ "java/lang/invoke/MethodHandle" ∧ ym_Client_ctor.cls ≠ "java/lang/invoke/VarHandle" ∧ (parseMethodDescriptor ym_Client_ctor.desc).map (fun d => d.parameters.length) = some 0) := ⟨zw_mem 72 (by decide +kernel) rfl, zw_mem 30 (by decide +kernel) rfl, by decide +kernel, by decide +kernel, by decide +kernel⟩
theorem za_Client_ctor : Cond.instanceMethod ym_Client_ctor ∈ zw_WS := zw_mem 71 (by decide +kernel) rfl
def ym_Client_learn : MethodName := ⟨"TwinLedgers$Client", "learn", "(I)V"⟩
abbrev bm_Client_learn : ByteArray := prog_3_method_2_code
theorem zk_Client_learn : Cond.code ym_Client_learn bm_Client_learn 2 none ∈ zw_WS ∧ Cond.initialized ym_Client_learn.cls ∈ zw_WS ∧ (ym_Client_learn.cls ≠ "java/lang/invoke/MethodHandle" ∧ ym_Client_learn.cls ≠ "java/lang/invoke/VarHandle" ∧ (parseMethodDescriptor ym_Client_learn.desc).map (fun d => d.parameters.length) = some 1) := ⟨zw_mem 236 (by decide +kernel) rfl, zw_mem 30 (by decide +kernel) rfl, by decide +kernel, by decide +kernel, by decide +kernel⟩
theorem za_Client_learn : Cond.instanceMethod ym_Client_learn ∈ zw_WS := zw_mem 234 (by decide +kernel) rfl
theorem zb_Client_learn : Cond.selects ym_Client_learn.cls ym_Client_learn ym_Client_learn ∈ zw_WS := zw_mem 235 (by decide +kernel) rfl
def ym_Client_hasHeader : MethodName := ⟨"TwinLedgers$Client", "hasHeader", "(I)Z"⟩
abbrev bm_Client_hasHeader : ByteArray := prog_3_method_3_code
theorem zk_Client_hasHeader : Cond.code ym_Client_hasHeader bm_Client_hasHeader 2 (some .boolean) ∈ zw_WS ∧ Cond.initialized ym_Client_hasHeader.cls ∈ zw_WS ∧ (ym_Client_hasHeader.cls ≠ "java/lang/invoke/MethodHandle" ∧ ym_Client_hasHeader.cls ≠ "java/lang/invoke/VarHandle" ∧ (parseMethodDescriptor ym_Client_hasHeader.desc).map (fun d => d.parameters.length) = some 1) := ⟨zw_mem 300 (by decide +kernel) rfl, zw_mem 30 (by decide +kernel) rfl, by decide +kernel, by decide +kernel, by decide +kernel⟩
theorem za_Client_hasHeader : Cond.instanceMethod ym_Client_hasHeader ∈ zw_WS := zw_mem 298 (by decide +kernel) rfl
theorem zb_Client_hasHeader : Cond.selects ym_Client_hasHeader.cls ym_Client_hasHeader ym_Client_hasHeader ∈ zw_WS := zw_mem 299 (by decide +kernel) rfl
def ym_Bank_ctor : MethodName := ⟨"TwinLedgers$Bank", "<init>", "()V"⟩
abbrev bm_Bank_ctor : ByteArray := prog_2_method_1_code
theorem zk_Bank_ctor : Cond.code ym_Bank_ctor bm_Bank_ctor 2 none ∈ zw_WS ∧ Cond.initialized ym_Bank_ctor.cls ∈ zw_WS ∧ (ym_Bank_ctor.cls ≠ "java/lang/invoke/MethodHandle" ∧ ym_Bank_ctor.cls ≠ "java/lang/invoke/VarHandle" ∧ (parseMethodDescriptor ym_Bank_ctor.desc).map (fun d => d.parameters.length) = some 0) := ⟨zw_mem 86 (by decide +kernel) rfl, zw_mem 31 (by decide +kernel) rfl, by decide +kernel, by decide +kernel, by decide +kernel⟩
theorem za_Bank_ctor : Cond.instanceMethod ym_Bank_ctor ∈ zw_WS := zw_mem 85 (by decide +kernel) rfl
def ym_Bank_isKind : MethodName := ⟨"TwinLedgers$Bank", "isKind", "(I)Z"⟩
abbrev bm_Bank_isKind : ByteArray := prog_2_method_2_code
theorem zk_Bank_isKind : Cond.code ym_Bank_isKind bm_Bank_isKind 2 (some .boolean) ∈ zw_WS ∧ Cond.initialized ym_Bank_isKind.cls ∈ zw_WS ∧ (ym_Bank_isKind.cls ≠ "java/lang/invoke/MethodHandle" ∧ ym_Bank_isKind.cls ≠ "java/lang/invoke/VarHandle" ∧ (parseMethodDescriptor ym_Bank_isKind.desc).map (fun d => d.parameters.length) = some 1) := ⟨zw_mem 336 (by decide +kernel) rfl, zw_mem 31 (by decide +kernel) rfl, by decide +kernel, by decide +kernel, by decide +kernel⟩
theorem za_Bank_isKind : Cond.instanceMethod ym_Bank_isKind ∈ zw_WS := zw_mem 334 (by decide +kernel) rfl
theorem zb_Bank_isKind : Cond.selects ym_Bank_isKind.cls ym_Bank_isKind ym_Bank_isKind ∈ zw_WS := zw_mem 335 (by decide +kernel) rfl
def ym_Bank_backBy : MethodName := ⟨"TwinLedgers$Bank", "backBy", "(II)I"⟩
abbrev bm_Bank_backBy : ByteArray := prog_2_method_3_code
theorem zk_Bank_backBy : Cond.code ym_Bank_backBy bm_Bank_backBy 3 (some .int) ∈ zw_WS ∧ Cond.initialized ym_Bank_backBy.cls ∈ zw_WS ∧ (ym_Bank_backBy.cls ≠ "java/lang/invoke/MethodHandle" ∧ ym_Bank_backBy.cls ≠ "java/lang/invoke/VarHandle" ∧ (parseMethodDescriptor ym_Bank_backBy.desc).map (fun d => d.parameters.length) = some 2) := ⟨zw_mem 344 (by decide +kernel) rfl, zw_mem 31 (by decide +kernel) rfl, by decide +kernel, by decide +kernel, by decide +kernel⟩
theorem za_Bank_backBy : Cond.instanceMethod ym_Bank_backBy ∈ zw_WS := zw_mem 342 (by decide +kernel) rfl
theorem zb_Bank_backBy : Cond.selects ym_Bank_backBy.cls ym_Bank_backBy ym_Bank_backBy ∈ zw_WS := zw_mem 343 (by decide +kernel) rfl
def ym_Bank_charge : MethodName := ⟨"TwinLedgers$Bank", "charge", "(LTwinLedgers$Packet;I)V"⟩
abbrev bm_Bank_charge : ByteArray := prog_2_method_4_code
theorem zk_Bank_charge : Cond.code ym_Bank_charge bm_Bank_charge 3 none ∈ zw_WS ∧ Cond.initialized ym_Bank_charge.cls ∈ zw_WS ∧ (ym_Bank_charge.cls ≠ "java/lang/invoke/MethodHandle" ∧ ym_Bank_charge.cls ≠ "java/lang/invoke/VarHandle" ∧ (parseMethodDescriptor ym_Bank_charge.desc).map (fun d => d.parameters.length) = some 2) := ⟨zw_mem 348 (by decide +kernel) rfl, zw_mem 31 (by decide +kernel) rfl, by decide +kernel, by decide +kernel, by decide +kernel⟩
theorem za_Bank_charge : Cond.instanceMethod ym_Bank_charge ∈ zw_WS := zw_mem 346 (by decide +kernel) rfl
theorem zb_Bank_charge : Cond.selects ym_Bank_charge.cls ym_Bank_charge ym_Bank_charge ∈ zw_WS := zw_mem 347 (by decide +kernel) rfl
def ym_Bank_refund : MethodName := ⟨"TwinLedgers$Bank", "refund", "(LTwinLedgers$Packet;I)V"⟩
abbrev bm_Bank_refund : ByteArray := prog_2_method_5_code
theorem zk_Bank_refund : Cond.code ym_Bank_refund bm_Bank_refund 3 none ∈ zw_WS ∧ Cond.initialized ym_Bank_refund.cls ∈ zw_WS ∧ (ym_Bank_refund.cls ≠ "java/lang/invoke/MethodHandle" ∧ ym_Bank_refund.cls ≠ "java/lang/invoke/VarHandle" ∧ (parseMethodDescriptor ym_Bank_refund.desc).map (fun d => d.parameters.length) = some 2) := ⟨zw_mem 434 (by decide +kernel) rfl, zw_mem 31 (by decide +kernel) rfl, by decide +kernel, by decide +kernel, by decide +kernel⟩
theorem za_Bank_refund : Cond.instanceMethod ym_Bank_refund ∈ zw_WS := zw_mem 432 (by decide +kernel) rfl
theorem zb_Bank_refund : Cond.selects ym_Bank_refund.cls ym_Bank_refund ym_Bank_refund ∈ zw_WS := zw_mem 433 (by decide +kernel) rfl
def ym_Bank_take : MethodName := ⟨"TwinLedgers$Bank", "take", "(LTwinLedgers$Packet;I)Z"⟩
abbrev bm_Bank_take : ByteArray := prog_2_method_6_code
theorem zk_Bank_take : Cond.code ym_Bank_take bm_Bank_take 3 (some .boolean) ∈ zw_WS ∧ Cond.initialized ym_Bank_take.cls ∈ zw_WS ∧ (ym_Bank_take.cls ≠ "java/lang/invoke/MethodHandle" ∧ ym_Bank_take.cls ≠ "java/lang/invoke/VarHandle" ∧ (parseMethodDescriptor ym_Bank_take.desc).map (fun d => d.parameters.length) = some 2) := ⟨zw_mem 395 (by decide +kernel) rfl, zw_mem 31 (by decide +kernel) rfl, by decide +kernel, by decide +kernel, by decide +kernel⟩
theorem za_Bank_take : Cond.instanceMethod ym_Bank_take ∈ zw_WS := zw_mem 393 (by decide +kernel) rfl
theorem zb_Bank_take : Cond.selects ym_Bank_take.cls ym_Bank_take ym_Bank_take ∈ zw_WS := zw_mem 394 (by decide +kernel) rfl
def ym_Bank_takeBack : MethodName := ⟨"TwinLedgers$Bank", "takeBack", "(LTwinLedgers$Packet;I)Z"⟩
abbrev bm_Bank_takeBack : ByteArray := prog_2_method_7_code
theorem zk_Bank_takeBack : Cond.code ym_Bank_takeBack bm_Bank_takeBack 4 (some .boolean) ∈ zw_WS ∧ Cond.initialized ym_Bank_takeBack.cls ∈ zw_WS ∧ (ym_Bank_takeBack.cls ≠ "java/lang/invoke/MethodHandle" ∧ ym_Bank_takeBack.cls ≠ "java/lang/invoke/VarHandle" ∧ (parseMethodDescriptor ym_Bank_takeBack.desc).map (fun d => d.parameters.length) = some 2) := ⟨zw_mem 399 (by decide +kernel) rfl, zw_mem 31 (by decide +kernel) rfl, by decide +kernel, by decide +kernel, by decide +kernel⟩
theorem za_Bank_takeBack : Cond.instanceMethod ym_Bank_takeBack ∈ zw_WS := zw_mem 398 (by decide +kernel) rfl
theorem zb_Bank_takeBack : Cond.selects ym_Bank_takeBack.cls ym_Bank_takeBack ym_Bank_takeBack ∈ zw_WS := zw_mem 7 (by decide +kernel) rfl
def ym_Bank_takeVoucher : MethodName := ⟨"TwinLedgers$Bank", "takeVoucher", "(LTwinLedgers$Packet;I)Z"⟩
abbrev bm_Bank_takeVoucher : ByteArray := prog_2_method_8_code
theorem zk_Bank_takeVoucher : Cond.code ym_Bank_takeVoucher bm_Bank_takeVoucher 4 (some .boolean) ∈ zw_WS ∧ Cond.initialized ym_Bank_takeVoucher.cls ∈ zw_WS ∧ (ym_Bank_takeVoucher.cls ≠ "java/lang/invoke/MethodHandle" ∧ ym_Bank_takeVoucher.cls ≠ "java/lang/invoke/VarHandle" ∧ (parseMethodDescriptor ym_Bank_takeVoucher.desc).map (fun d => d.parameters.length) = some 2) := ⟨zw_mem 403 (by decide +kernel) rfl, zw_mem 31 (by decide +kernel) rfl, by decide +kernel, by decide +kernel, by decide +kernel⟩
theorem za_Bank_takeVoucher : Cond.instanceMethod ym_Bank_takeVoucher ∈ zw_WS := zw_mem 402 (by decide +kernel) rfl
theorem zb_Bank_takeVoucher : Cond.selects ym_Bank_takeVoucher.cls ym_Bank_takeVoucher ym_Bank_takeVoucher ∈ zw_WS := zw_mem 8 (by decide +kernel) rfl
def ym_Bank_findVoucher : MethodName := ⟨"TwinLedgers$Bank", "findVoucher", "(II)I"⟩
abbrev bm_Bank_findVoucher : ByteArray := prog_2_method_9_code
theorem zk_Bank_findVoucher : Cond.code ym_Bank_findVoucher bm_Bank_findVoucher 4 (some .int) ∈ zw_WS ∧ Cond.initialized ym_Bank_findVoucher.cls ∈ zw_WS ∧ (ym_Bank_findVoucher.cls ≠ "java/lang/invoke/MethodHandle" ∧ ym_Bank_findVoucher.cls ≠ "java/lang/invoke/VarHandle" ∧ (parseMethodDescriptor ym_Bank_findVoucher.desc).map (fun d => d.parameters.length) = some 2) := ⟨zw_mem 407 (by decide +kernel) rfl, zw_mem 31 (by decide +kernel) rfl, by decide +kernel, by decide +kernel, by decide +kernel⟩
theorem za_Bank_findVoucher : Cond.instanceMethod ym_Bank_findVoucher ∈ zw_WS := zw_mem 406 (by decide +kernel) rfl
theorem zb_Bank_findVoucher : Cond.selects ym_Bank_findVoucher.cls ym_Bank_findVoucher ym_Bank_findVoucher ∈ zw_WS := zw_mem 9 (by decide +kernel) rfl
def ym_End_ctor : MethodName := ⟨"TwinLedgers$End", "<init>", "()V"⟩
abbrev bm_End_ctor : ByteArray := prog_4_method_1_code
theorem zk_End_ctor : Cond.code ym_End_ctor bm_End_ctor 2 none ∈ zw_WS ∧ Cond.initialized ym_End_ctor.cls ∈ zw_WS ∧ (ym_End_ctor.cls ≠ "java/lang/invoke/MethodHandle" ∧ ym_End_ctor.cls ≠ "java/lang/invoke/VarHandle" ∧ (parseMethodDescriptor ym_End_ctor.desc).map (fun d => d.parameters.length) = some 0) := ⟨zw_mem 116 (by decide +kernel) rfl, zw_mem 32 (by decide +kernel) rfl, by decide +kernel, by decide +kernel, by decide +kernel⟩
theorem za_End_ctor : Cond.instanceMethod ym_End_ctor ∈ zw_WS := zw_mem 115 (by decide +kernel) rfl
def ym_Packet_ctor : MethodName := ⟨"TwinLedgers$Packet", "<init>", "()V"⟩
abbrev bm_Packet_ctor : ByteArray := prog_6_method_1_code
theorem zk_Packet_ctor : Cond.code ym_Packet_ctor bm_Packet_ctor 1 none ∈ zw_WS ∧ Cond.initialized ym_Packet_ctor.cls ∈ zw_WS ∧ (ym_Packet_ctor.cls ≠ "java/lang/invoke/MethodHandle" ∧ ym_Packet_ctor.cls ≠ "java/lang/invoke/VarHandle" ∧ (parseMethodDescriptor ym_Packet_ctor.desc).map (fun d => d.parameters.length) = some 0) := ⟨zw_mem 123 (by decide +kernel) rfl, zw_mem 33 (by decide +kernel) rfl, by decide +kernel, by decide +kernel, by decide +kernel⟩
theorem za_Packet_ctor : Cond.instanceMethod ym_Packet_ctor ∈ zw_WS := zw_mem 122 (by decide +kernel) rfl
def ym_Packet_goesBack : MethodName := ⟨"TwinLedgers$Packet", "goesBack", "()Z"⟩
abbrev bm_Packet_goesBack : ByteArray := prog_6_method_2_code
theorem zk_Packet_goesBack : Cond.code ym_Packet_goesBack bm_Packet_goesBack 1 (some .boolean) ∈ zw_WS ∧ Cond.initialized ym_Packet_goesBack.cls ∈ zw_WS ∧ (ym_Packet_goesBack.cls ≠ "java/lang/invoke/MethodHandle" ∧ ym_Packet_goesBack.cls ≠ "java/lang/invoke/VarHandle" ∧ (parseMethodDescriptor ym_Packet_goesBack.desc).map (fun d => d.parameters.length) = some 0) := ⟨zw_mem 352 (by decide +kernel) rfl, zw_mem 33 (by decide +kernel) rfl, by decide +kernel, by decide +kernel, by decide +kernel⟩
theorem za_Packet_goesBack : Cond.instanceMethod ym_Packet_goesBack ∈ zw_WS := zw_mem 350 (by decide +kernel) rfl
theorem zb_Packet_goesBack : Cond.selects ym_Packet_goesBack.cls ym_Packet_goesBack ym_Packet_goesBack ∈ zw_WS := zw_mem 351 (by decide +kernel) rfl
def ym_Packet_printWith : MethodName := ⟨"TwinLedgers$Packet", "printWith", "(I)I"⟩
abbrev bm_Packet_printWith : ByteArray := prog_6_method_3_code
theorem zk_Packet_printWith : Cond.code ym_Packet_printWith bm_Packet_printWith 3 (some .int) ∈ zw_WS ∧ Cond.initialized ym_Packet_printWith.cls ∈ zw_WS ∧ (ym_Packet_printWith.cls ≠ "java/lang/invoke/MethodHandle" ∧ ym_Packet_printWith.cls ≠ "java/lang/invoke/VarHandle" ∧ (parseMethodDescriptor ym_Packet_printWith.desc).map (fun d => d.parameters.length) = some 1) := ⟨zw_mem 359 (by decide +kernel) rfl, zw_mem 33 (by decide +kernel) rfl, by decide +kernel, by decide +kernel, by decide +kernel⟩
theorem za_Packet_printWith : Cond.instanceMethod ym_Packet_printWith ∈ zw_WS := zw_mem 357 (by decide +kernel) rfl
theorem zb_Packet_printWith : Cond.selects ym_Packet_printWith.cls ym_Packet_printWith ym_Packet_printWith ∈ zw_WS := zw_mem 358 (by decide +kernel) rfl
def ym_Mo_ctor : MethodName := ⟨"TwinLedgersModel", "<init>", "(I)V"⟩
abbrev bm_Mo_ctor : ByteArray := prog_9_method_1_code
theorem zk_Mo_ctor : Cond.code ym_Mo_ctor bm_Mo_ctor 4 none ∈ zw_WS ∧ Cond.initialized ym_Mo_ctor.cls ∈ zw_WS ∧ (ym_Mo_ctor.cls ≠ "java/lang/invoke/MethodHandle" ∧ ym_Mo_ctor.cls ≠ "java/lang/invoke/VarHandle" ∧ (parseMethodDescriptor ym_Mo_ctor.desc).map (fun d => d.parameters.length) = some 1) := ⟨zw_mem 523 (by decide +kernel) rfl, zw_mem 34 (by decide +kernel) rfl, by decide +kernel, by decide +kernel, by decide +kernel⟩
theorem za_Mo_ctor : Cond.instanceMethod ym_Mo_ctor ∈ zw_WS := zw_mem 522 (by decide +kernel) rfl
def ym_Mo_outside : MethodName := ⟨"TwinLedgersModel", "outside", "(III)Z"⟩
abbrev bm_Mo_outside : ByteArray := prog_9_method_2_code
theorem zk_Mo_outside : Cond.code ym_Mo_outside bm_Mo_outside 3 (some .boolean) ∈ zw_WS ∧ Cond.initialized ym_Mo_outside.cls ∈ zw_WS ∧ (ym_Mo_outside.cls ≠ "java/lang/invoke/MethodHandle" ∧ ym_Mo_outside.cls ≠ "java/lang/invoke/VarHandle" ∧ (parseMethodDescriptor ym_Mo_outside.desc).map (fun d => d.parameters.length) = some 3) := ⟨zw_mem 610 (by decide +kernel) rfl, zw_mem 34 (by decide +kernel) rfl, by decide +kernel, by decide +kernel, by decide +kernel⟩
theorem za_Mo_outside : Cond.static ym_Mo_outside ∈ zw_WS := zw_mem 609 (by decide +kernel) rfl
def ym_Mo_mix : MethodName := ⟨"TwinLedgersModel", "mix", "(II)I"⟩
abbrev bm_Mo_mix : ByteArray := prog_9_method_3_code
theorem zk_Mo_mix : Cond.code ym_Mo_mix bm_Mo_mix 3 (some .int) ∈ zw_WS ∧ Cond.initialized ym_Mo_mix.cls ∈ zw_WS ∧ (ym_Mo_mix.cls ≠ "java/lang/invoke/MethodHandle" ∧ ym_Mo_mix.cls ≠ "java/lang/invoke/VarHandle" ∧ (parseMethodDescriptor ym_Mo_mix.desc).map (fun d => d.parameters.length) = some 2) := ⟨zw_mem 625 (by decide +kernel) rfl, zw_mem 34 (by decide +kernel) rfl, by decide +kernel, by decide +kernel, by decide +kernel⟩
theorem za_Mo_mix : Cond.static ym_Mo_mix ∈ zw_WS := zw_mem 624 (by decide +kernel) rfl
def ym_Mo_list : MethodName := ⟨"TwinLedgersModel", "list", "(III)V"⟩
abbrev bm_Mo_list : ByteArray := prog_9_method_4_code
theorem zk_Mo_list : Cond.code ym_Mo_list bm_Mo_list 5 none ∈ zw_WS ∧ Cond.initialized ym_Mo_list.cls ∈ zw_WS ∧ (ym_Mo_list.cls ≠ "java/lang/invoke/MethodHandle" ∧ ym_Mo_list.cls ≠ "java/lang/invoke/VarHandle" ∧ (parseMethodDescriptor ym_Mo_list.desc).map (fun d => d.parameters.length) = some 3) := ⟨zw_mem 614 (by decide +kernel) rfl, zw_mem 34 (by decide +kernel) rfl, by decide +kernel, by decide +kernel, by decide +kernel⟩
theorem za_Mo_list : Cond.instanceMethod ym_Mo_list ∈ zw_WS := zw_mem 613 (by decide +kernel) rfl
theorem zb_Mo_list : Cond.selects ym_Mo_list.cls ym_Mo_list ym_Mo_list ∈ zw_WS := zw_mem 14 (by decide +kernel) rfl
def ym_Mo_tick : MethodName := ⟨"TwinLedgersModel", "tick", "(I)I"⟩
abbrev bm_Mo_tick : ByteArray := prog_9_method_5_code
theorem zk_Mo_tick : Cond.code ym_Mo_tick bm_Mo_tick 5 (some .int) ∈ zw_WS ∧ Cond.initialized ym_Mo_tick.cls ∈ zw_WS ∧ (ym_Mo_tick.cls ≠ "java/lang/invoke/MethodHandle" ∧ ym_Mo_tick.cls ≠ "java/lang/invoke/VarHandle" ∧ (parseMethodDescriptor ym_Mo_tick.desc).map (fun d => d.parameters.length) = some 1) := ⟨zw_mem 607 (by decide +kernel) rfl, zw_mem 34 (by decide +kernel) rfl, by decide +kernel, by decide +kernel, by decide +kernel⟩
theorem za_Mo_tick : Cond.instanceMethod ym_Mo_tick ∈ zw_WS := zw_mem 605 (by decide +kernel) rfl
theorem zb_Mo_tick : Cond.selects ym_Mo_tick.cls ym_Mo_tick ym_Mo_tick ∈ zw_WS := zw_mem 606 (by decide +kernel) rfl
def ym_Mo_listPacket : MethodName := ⟨"TwinLedgersModel", "listPacket", "(IIII)V"⟩
abbrev bm_Mo_listPacket : ByteArray := prog_9_method_6_code
theorem zk_Mo_listPacket : Cond.code ym_Mo_listPacket bm_Mo_listPacket 7 none ∈ zw_WS ∧ Cond.initialized ym_Mo_listPacket.cls ∈ zw_WS ∧ (ym_Mo_listPacket.cls ≠ "java/lang/invoke/MethodHandle" ∧ ym_Mo_listPacket.cls ≠ "java/lang/invoke/VarHandle" ∧ (parseMethodDescriptor ym_Mo_listPacket.desc).map (fun d => d.parameters.length) = some 4) := ⟨zw_mem 618 (by decide +kernel) rfl, zw_mem 34 (by decide +kernel) rfl, by decide +kernel, by decide +kernel, by decide +kernel⟩
theorem za_Mo_listPacket : Cond.instanceMethod ym_Mo_listPacket ∈ zw_WS := zw_mem 617 (by decide +kernel) rfl
theorem zb_Mo_listPacket : Cond.selects ym_Mo_listPacket.cls ym_Mo_listPacket ym_Mo_listPacket ∈ zw_WS := zw_mem 15 (by decide +kernel) rfl
def ym_Mo_print : MethodName := ⟨"TwinLedgersModel", "print", "(II)I"⟩
abbrev bm_Mo_print : ByteArray := prog_9_method_7_code
theorem zk_Mo_print : Cond.code ym_Mo_print bm_Mo_print 3 (some .int) ∈ zw_WS ∧ Cond.initialized ym_Mo_print.cls ∈ zw_WS ∧ (ym_Mo_print.cls ≠ "java/lang/invoke/MethodHandle" ∧ ym_Mo_print.cls ≠ "java/lang/invoke/VarHandle" ∧ (parseMethodDescriptor ym_Mo_print.desc).map (fun d => d.parameters.length) = some 2) := ⟨zw_mem 622 (by decide +kernel) rfl, zw_mem 34 (by decide +kernel) rfl, by decide +kernel, by decide +kernel, by decide +kernel⟩
theorem za_Mo_print : Cond.instanceMethod ym_Mo_print ∈ zw_WS := zw_mem 621 (by decide +kernel) rfl
theorem zb_Mo_print : Cond.selects ym_Mo_print.cls ym_Mo_print ym_Mo_print ∈ zw_WS := zw_mem 16 (by decide +kernel) rfl
def ym_Mo_keeps : MethodName := ⟨"TwinLedgersModel", "keeps", "(II)Z"⟩
abbrev bm_Mo_keeps : ByteArray := prog_9_method_8_code
theorem zk_Mo_keeps : Cond.code ym_Mo_keeps bm_Mo_keeps 3 (some .boolean) ∈ zw_WS ∧ Cond.initialized ym_Mo_keeps.cls ∈ zw_WS ∧ (ym_Mo_keeps.cls ≠ "java/lang/invoke/MethodHandle" ∧ ym_Mo_keeps.cls ≠ "java/lang/invoke/VarHandle" ∧ (parseMethodDescriptor ym_Mo_keeps.desc).map (fun d => d.parameters.length) = some 2) := ⟨zw_mem 642 (by decide +kernel) rfl, zw_mem 34 (by decide +kernel) rfl, by decide +kernel, by decide +kernel, by decide +kernel⟩
theorem za_Mo_keeps : Cond.instanceMethod ym_Mo_keeps ∈ zw_WS := zw_mem 641 (by decide +kernel) rfl
theorem zb_Mo_keeps : Cond.selects ym_Mo_keeps.cls ym_Mo_keeps ym_Mo_keeps ∈ zw_WS := zw_mem 17 (by decide +kernel) rfl
def ym_Mo_update : MethodName := ⟨"TwinLedgersModel", "update", "(IIIZ)I"⟩
abbrev bm_Mo_update : ByteArray := prog_9_method_9_code
theorem zk_Mo_update : Cond.code ym_Mo_update bm_Mo_update 6 (some .int) ∈ zw_WS ∧ Cond.initialized ym_Mo_update.cls ∈ zw_WS ∧ (ym_Mo_update.cls ≠ "java/lang/invoke/MethodHandle" ∧ ym_Mo_update.cls ≠ "java/lang/invoke/VarHandle" ∧ (parseMethodDescriptor ym_Mo_update.desc).map (fun d => d.parameters.length) = some 4) := ⟨zw_mem 630 (by decide +kernel) rfl, zw_mem 34 (by decide +kernel) rfl, by decide +kernel, by decide +kernel, by decide +kernel⟩
theorem za_Mo_update : Cond.instanceMethod ym_Mo_update ∈ zw_WS := zw_mem 628 (by decide +kernel) rfl
theorem zb_Mo_update : Cond.selects ym_Mo_update.cls ym_Mo_update ym_Mo_update ∈ zw_WS := zw_mem 629 (by decide +kernel) rfl
def ym_Mo_knows : MethodName := ⟨"TwinLedgersModel", "knows", "(II)Z"⟩
abbrev bm_Mo_knows : ByteArray := prog_9_method_10_code
theorem zk_Mo_knows : Cond.code ym_Mo_knows bm_Mo_knows 3 (some .boolean) ∈ zw_WS ∧ Cond.initialized ym_Mo_knows.cls ∈ zw_WS ∧ (ym_Mo_knows.cls ≠ "java/lang/invoke/MethodHandle" ∧ ym_Mo_knows.cls ≠ "java/lang/invoke/VarHandle" ∧ (parseMethodDescriptor ym_Mo_knows.desc).map (fun d => d.parameters.length) = some 2) := ⟨zw_mem 634 (by decide +kernel) rfl, zw_mem 34 (by decide +kernel) rfl, by decide +kernel, by decide +kernel, by decide +kernel⟩
theorem za_Mo_knows : Cond.instanceMethod ym_Mo_knows ∈ zw_WS := zw_mem 632 (by decide +kernel) rfl
theorem zb_Mo_knows : Cond.selects ym_Mo_knows.cls ym_Mo_knows ym_Mo_knows ∈ zw_WS := zw_mem 633 (by decide +kernel) rfl
def ym_Mo_proof : MethodName := ⟨"TwinLedgersModel", "proof", "(IIIZI)I"⟩
abbrev bm_Mo_proof : ByteArray := prog_9_method_11_code
theorem zk_Mo_proof : Cond.code ym_Mo_proof bm_Mo_proof 9 (some .int) ∈ zw_WS ∧ Cond.initialized ym_Mo_proof.cls ∈ zw_WS ∧ (ym_Mo_proof.cls ≠ "java/lang/invoke/MethodHandle" ∧ ym_Mo_proof.cls ≠ "java/lang/invoke/VarHandle" ∧ (parseMethodDescriptor ym_Mo_proof.desc).map (fun d => d.parameters.length) = some 5) := ⟨zw_mem 664 (by decide +kernel) rfl, zw_mem 34 (by decide +kernel) rfl, by decide +kernel, by decide +kernel, by decide +kernel⟩
theorem za_Mo_proof : Cond.instanceMethod ym_Mo_proof ∈ zw_WS := zw_mem 663 (by decide +kernel) rfl
theorem zb_Mo_proof : Cond.selects ym_Mo_proof.cls ym_Mo_proof ym_Mo_proof ∈ zw_WS := zw_mem 19 (by decide +kernel) rfl
def ym_Mo_root : MethodName := ⟨"TwinLedgersModel", "root", "(II)I"⟩
abbrev bm_Mo_root : ByteArray := prog_9_method_12_code
theorem zk_Mo_root : Cond.code ym_Mo_root bm_Mo_root 6 (some .int) ∈ zw_WS ∧ Cond.initialized ym_Mo_root.cls ∈ zw_WS ∧ (ym_Mo_root.cls ≠ "java/lang/invoke/MethodHandle" ∧ ym_Mo_root.cls ≠ "java/lang/invoke/VarHandle" ∧ (parseMethodDescriptor ym_Mo_root.desc).map (fun d => d.parameters.length) = some 2) := ⟨zw_mem 638 (by decide +kernel) rfl, zw_mem 34 (by decide +kernel) rfl, by decide +kernel, by decide +kernel, by decide +kernel⟩
theorem za_Mo_root : Cond.instanceMethod ym_Mo_root ∈ zw_WS := zw_mem 636 (by decide +kernel) rfl
theorem zb_Mo_root : Cond.selects ym_Mo_root.cls ym_Mo_root ym_Mo_root ∈ zw_WS := zw_mem 637 (by decide +kernel) rfl
def ym_Mo_join : MethodName := ⟨"TwinLedgersModel", "join", "(I)I"⟩
abbrev bm_Mo_join : ByteArray := prog_9_method_13_code
theorem zk_Mo_join : Cond.code ym_Mo_join bm_Mo_join 2 (some .int) ∈ zw_WS ∧ Cond.initialized ym_Mo_join.cls ∈ zw_WS ∧ (ym_Mo_join.cls ≠ "java/lang/invoke/MethodHandle" ∧ ym_Mo_join.cls ≠ "java/lang/invoke/VarHandle" ∧ (parseMethodDescriptor ym_Mo_join.desc).map (fun d => d.parameters.length) = some 1) := ⟨zw_mem 646 (by decide +kernel) rfl, zw_mem 34 (by decide +kernel) rfl, by decide +kernel, by decide +kernel, by decide +kernel⟩
theorem za_Mo_join : Cond.instanceMethod ym_Mo_join ∈ zw_WS := zw_mem 645 (by decide +kernel) rfl
theorem zb_Mo_join : Cond.selects ym_Mo_join.cls ym_Mo_join ym_Mo_join ∈ zw_WS := zw_mem 18 (by decide +kernel) rfl
def ym_Mo_isEnd : MethodName := ⟨"TwinLedgersModel", "isEnd", "(II)Z"⟩
abbrev bm_Mo_isEnd : ByteArray := prog_9_method_14_code
theorem zk_Mo_isEnd : Cond.code ym_Mo_isEnd bm_Mo_isEnd 2 (some .boolean) ∈ zw_WS ∧ Cond.initialized ym_Mo_isEnd.cls ∈ zw_WS ∧ (ym_Mo_isEnd.cls ≠ "java/lang/invoke/MethodHandle" ∧ ym_Mo_isEnd.cls ≠ "java/lang/invoke/VarHandle" ∧ (parseMethodDescriptor ym_Mo_isEnd.desc).map (fun d => d.parameters.length) = some 2) := ⟨zw_mem 653 (by decide +kernel) rfl, zw_mem 34 (by decide +kernel) rfl, by decide +kernel, by decide +kernel, by decide +kernel⟩
theorem za_Mo_isEnd : Cond.static ym_Mo_isEnd ∈ zw_WS := zw_mem 652 (by decide +kernel) rfl
def ym_Mo_flag : MethodName := ⟨"TwinLedgersModel", "flag", "(Z)I"⟩
abbrev bm_Mo_flag : ByteArray := prog_9_method_15_code
theorem zk_Mo_flag : Cond.code ym_Mo_flag bm_Mo_flag 1 (some .int) ∈ zw_WS ∧ Cond.initialized ym_Mo_flag.cls ∈ zw_WS ∧ (ym_Mo_flag.cls ≠ "java/lang/invoke/MethodHandle" ∧ ym_Mo_flag.cls ≠ "java/lang/invoke/VarHandle" ∧ (parseMethodDescriptor ym_Mo_flag.desc).map (fun d => d.parameters.length) = some 1) := ⟨zw_mem 660 (by decide +kernel) rfl, zw_mem 34 (by decide +kernel) rfl, by decide +kernel, by decide +kernel, by decide +kernel⟩
theorem za_Mo_flag : Cond.static ym_Mo_flag ∈ zw_WS := zw_mem 659 (by decide +kernel) rfl
def ym_Mo_init : MethodName := ⟨"TwinLedgersModel", "init", "(IIZ)I"⟩
abbrev bm_Mo_init : ByteArray := prog_9_method_16_code
theorem zk_Mo_init : Cond.code ym_Mo_init bm_Mo_init 5 (some .int) ∈ zw_WS ∧ Cond.initialized ym_Mo_init.cls ∈ zw_WS ∧ (ym_Mo_init.cls ≠ "java/lang/invoke/MethodHandle" ∧ ym_Mo_init.cls ≠ "java/lang/invoke/VarHandle" ∧ (parseMethodDescriptor ym_Mo_init.desc).map (fun d => d.parameters.length) = some 3) := ⟨zw_mem 650 (by decide +kernel) rfl, zw_mem 34 (by decide +kernel) rfl, by decide +kernel, by decide +kernel, by decide +kernel⟩
theorem za_Mo_init : Cond.instanceMethod ym_Mo_init ∈ zw_WS := zw_mem 648 (by decide +kernel) rfl
theorem zb_Mo_init : Cond.selects ym_Mo_init.cls ym_Mo_init ym_Mo_init ∈ zw_WS := zw_mem 649 (by decide +kernel) rfl
def ym_Mo_attempt : MethodName := ⟨"TwinLedgersModel", "attempt", "(IIZI)I"⟩
abbrev bm_Mo_attempt : ByteArray := prog_9_method_17_code
theorem zk_Mo_attempt : Cond.code ym_Mo_attempt bm_Mo_attempt 7 (some .int) ∈ zw_WS ∧ Cond.initialized ym_Mo_attempt.cls ∈ zw_WS ∧ (ym_Mo_attempt.cls ≠ "java/lang/invoke/MethodHandle" ∧ ym_Mo_attempt.cls ≠ "java/lang/invoke/VarHandle" ∧ (parseMethodDescriptor ym_Mo_attempt.desc).map (fun d => d.parameters.length) = some 4) := ⟨zw_mem 657 (by decide +kernel) rfl, zw_mem 34 (by decide +kernel) rfl, by decide +kernel, by decide +kernel, by decide +kernel⟩
theorem za_Mo_attempt : Cond.instanceMethod ym_Mo_attempt ∈ zw_WS := zw_mem 655 (by decide +kernel) rfl
theorem zb_Mo_attempt : Cond.selects ym_Mo_attempt.cls ym_Mo_attempt ym_Mo_attempt ∈ zw_WS := zw_mem 656 (by decide +kernel) rfl
def ym_Mo_open : MethodName := ⟨"TwinLedgersModel", "open", "(IIII)I"⟩
abbrev bm_Mo_open : ByteArray := prog_9_method_18_code
theorem zk_Mo_open : Cond.code ym_Mo_open bm_Mo_open 7 (some .int) ∈ zw_WS ∧ Cond.initialized ym_Mo_open.cls ∈ zw_WS ∧ (ym_Mo_open.cls ≠ "java/lang/invoke/MethodHandle" ∧ ym_Mo_open.cls ≠ "java/lang/invoke/VarHandle" ∧ (parseMethodDescriptor ym_Mo_open.desc).map (fun d => d.parameters.length) = some 4) := ⟨zw_mem 669 (by decide +kernel) rfl, zw_mem 34 (by decide +kernel) rfl, by decide +kernel, by decide +kernel, by decide +kernel⟩
theorem za_Mo_open : Cond.instanceMethod ym_Mo_open ∈ zw_WS := zw_mem 667 (by decide +kernel) rfl
theorem zb_Mo_open : Cond.selects ym_Mo_open.cls ym_Mo_open ym_Mo_open ∈ zw_WS := zw_mem 668 (by decide +kernel) rfl
def ym_Mo_close : MethodName := ⟨"TwinLedgersModel", "close", "(II)I"⟩
abbrev bm_Mo_close : ByteArray := prog_9_method_19_code
theorem zk_Mo_close : Cond.code ym_Mo_close bm_Mo_close 3 (some .int) ∈ zw_WS ∧ Cond.initialized ym_Mo_close.cls ∈ zw_WS ∧ (ym_Mo_close.cls ≠ "java/lang/invoke/MethodHandle" ∧ ym_Mo_close.cls ≠ "java/lang/invoke/VarHandle" ∧ (parseMethodDescriptor ym_Mo_close.desc).map (fun d => d.parameters.length) = some 2) := ⟨zw_mem 673 (by decide +kernel) rfl, zw_mem 34 (by decide +kernel) rfl, by decide +kernel, by decide +kernel, by decide +kernel⟩
theorem za_Mo_close : Cond.instanceMethod ym_Mo_close ∈ zw_WS := zw_mem 671 (by decide +kernel) rfl
theorem zb_Mo_close : Cond.selects ym_Mo_close.cls ym_Mo_close ym_Mo_close ∈ zw_WS := zw_mem 672 (by decide +kernel) rfl
def ym_Mo_send : MethodName := ⟨"TwinLedgersModel", "send", "(IIIII)I"⟩
abbrev bm_Mo_send : ByteArray := prog_9_method_20_code
theorem zk_Mo_send : Cond.code ym_Mo_send bm_Mo_send 10 (some .int) ∈ zw_WS ∧ Cond.initialized ym_Mo_send.cls ∈ zw_WS ∧ (ym_Mo_send.cls ≠ "java/lang/invoke/MethodHandle" ∧ ym_Mo_send.cls ≠ "java/lang/invoke/VarHandle" ∧ (parseMethodDescriptor ym_Mo_send.desc).map (fun d => d.parameters.length) = some 5) := ⟨zw_mem 677 (by decide +kernel) rfl, zw_mem 34 (by decide +kernel) rfl, by decide +kernel, by decide +kernel, by decide +kernel⟩
theorem za_Mo_send : Cond.instanceMethod ym_Mo_send ∈ zw_WS := zw_mem 675 (by decide +kernel) rfl
theorem zb_Mo_send : Cond.selects ym_Mo_send.cls ym_Mo_send ym_Mo_send ∈ zw_WS := zw_mem 676 (by decide +kernel) rfl
def ym_Mo_voucherFor : MethodName := ⟨"TwinLedgersModel", "voucherFor", "(III)I"⟩
abbrev bm_Mo_voucherFor : ByteArray := prog_9_method_21_code
theorem zk_Mo_voucherFor : Cond.code ym_Mo_voucherFor bm_Mo_voucherFor 5 (some .int) ∈ zw_WS ∧ Cond.initialized ym_Mo_voucherFor.cls ∈ zw_WS ∧ (ym_Mo_voucherFor.cls ≠ "java/lang/invoke/MethodHandle" ∧ ym_Mo_voucherFor.cls ≠ "java/lang/invoke/VarHandle" ∧ (parseMethodDescriptor ym_Mo_voucherFor.desc).map (fun d => d.parameters.length) = some 3) := ⟨zw_mem 689 (by decide +kernel) rfl, zw_mem 34 (by decide +kernel) rfl, by decide +kernel, by decide +kernel, by decide +kernel⟩
theorem za_Mo_voucherFor : Cond.instanceMethod ym_Mo_voucherFor ∈ zw_WS := zw_mem 688 (by decide +kernel) rfl
theorem zb_Mo_voucherFor : Cond.selects ym_Mo_voucherFor.cls ym_Mo_voucherFor ym_Mo_voucherFor ∈ zw_WS := zw_mem 21 (by decide +kernel) rfl
def ym_Mo_takes : MethodName := ⟨"TwinLedgersModel", "takes", "(IIII)Z"⟩
abbrev bm_Mo_takes : ByteArray := prog_9_method_22_code
theorem zk_Mo_takes : Cond.code ym_Mo_takes bm_Mo_takes 8 (some .boolean) ∈ zw_WS ∧ Cond.initialized ym_Mo_takes.cls ∈ zw_WS ∧ (ym_Mo_takes.cls ≠ "java/lang/invoke/MethodHandle" ∧ ym_Mo_takes.cls ≠ "java/lang/invoke/VarHandle" ∧ (parseMethodDescriptor ym_Mo_takes.desc).map (fun d => d.parameters.length) = some 4) := ⟨zw_mem 685 (by decide +kernel) rfl, zw_mem 34 (by decide +kernel) rfl, by decide +kernel, by decide +kernel, by decide +kernel⟩
theorem za_Mo_takes : Cond.instanceMethod ym_Mo_takes ∈ zw_WS := zw_mem 684 (by decide +kernel) rfl
theorem zb_Mo_takes : Cond.selects ym_Mo_takes.cls ym_Mo_takes ym_Mo_takes ∈ zw_WS := zw_mem 20 (by decide +kernel) rfl
def ym_Mo_receive : MethodName := ⟨"TwinLedgersModel", "receive", "(IIIIZ)I"⟩
abbrev bm_Mo_receive : ByteArray := prog_9_method_23_code
theorem zk_Mo_receive : Cond.code ym_Mo_receive bm_Mo_receive 10 (some .int) ∈ zw_WS ∧ Cond.initialized ym_Mo_receive.cls ∈ zw_WS ∧ (ym_Mo_receive.cls ≠ "java/lang/invoke/MethodHandle" ∧ ym_Mo_receive.cls ≠ "java/lang/invoke/VarHandle" ∧ (parseMethodDescriptor ym_Mo_receive.desc).map (fun d => d.parameters.length) = some 5) := ⟨zw_mem 681 (by decide +kernel) rfl, zw_mem 34 (by decide +kernel) rfl, by decide +kernel, by decide +kernel, by decide +kernel⟩
theorem za_Mo_receive : Cond.instanceMethod ym_Mo_receive ∈ zw_WS := zw_mem 679 (by decide +kernel) rfl
theorem zb_Mo_receive : Cond.selects ym_Mo_receive.cls ym_Mo_receive ym_Mo_receive ∈ zw_WS := zw_mem 680 (by decide +kernel) rfl
def ym_Mo_refund : MethodName := ⟨"TwinLedgersModel", "refund", "(III)V"⟩
abbrev bm_Mo_refund : ByteArray := prog_9_method_24_code
theorem zk_Mo_refund : Cond.code ym_Mo_refund bm_Mo_refund 4 none ∈ zw_WS ∧ Cond.initialized ym_Mo_refund.cls ∈ zw_WS ∧ (ym_Mo_refund.cls ≠ "java/lang/invoke/MethodHandle" ∧ ym_Mo_refund.cls ≠ "java/lang/invoke/VarHandle" ∧ (parseMethodDescriptor ym_Mo_refund.desc).map (fun d => d.parameters.length) = some 3) := ⟨zw_mem 697 (by decide +kernel) rfl, zw_mem 34 (by decide +kernel) rfl, by decide +kernel, by decide +kernel, by decide +kernel⟩
theorem za_Mo_refund : Cond.instanceMethod ym_Mo_refund ∈ zw_WS := zw_mem 696 (by decide +kernel) rfl
theorem zb_Mo_refund : Cond.selects ym_Mo_refund.cls ym_Mo_refund ym_Mo_refund ∈ zw_WS := zw_mem 22 (by decide +kernel) rfl
def ym_Mo_acknowledge : MethodName := ⟨"TwinLedgersModel", "acknowledge", "(IIII)I"⟩
abbrev bm_Mo_acknowledge : ByteArray := prog_9_method_25_code
theorem zk_Mo_acknowledge : Cond.code ym_Mo_acknowledge bm_Mo_acknowledge 8 (some .int) ∈ zw_WS ∧ Cond.initialized ym_Mo_acknowledge.cls ∈ zw_WS ∧ (ym_Mo_acknowledge.cls ≠ "java/lang/invoke/MethodHandle" ∧ ym_Mo_acknowledge.cls ≠ "java/lang/invoke/VarHandle" ∧ (parseMethodDescriptor ym_Mo_acknowledge.desc).map (fun d => d.parameters.length) = some 4) := ⟨zw_mem 693 (by decide +kernel) rfl, zw_mem 34 (by decide +kernel) rfl, by decide +kernel, by decide +kernel, by decide +kernel⟩
theorem za_Mo_acknowledge : Cond.instanceMethod ym_Mo_acknowledge ∈ zw_WS := zw_mem 691 (by decide +kernel) rfl
theorem zb_Mo_acknowledge : Cond.selects ym_Mo_acknowledge.cls ym_Mo_acknowledge ym_Mo_acknowledge ∈ zw_WS := zw_mem 692 (by decide +kernel) rfl
def ym_Mo_notReceived : MethodName := ⟨"TwinLedgersModel", "notReceived", "(IIII)I"⟩
abbrev bm_Mo_notReceived : ByteArray := prog_9_method_26_code
theorem zk_Mo_notReceived : Cond.code ym_Mo_notReceived bm_Mo_notReceived 6 (some .int) ∈ zw_WS ∧ Cond.initialized ym_Mo_notReceived.cls ∈ zw_WS ∧ (ym_Mo_notReceived.cls ≠ "java/lang/invoke/MethodHandle" ∧ ym_Mo_notReceived.cls ≠ "java/lang/invoke/VarHandle" ∧ (parseMethodDescriptor ym_Mo_notReceived.desc).map (fun d => d.parameters.length) = some 4) := ⟨zw_mem 705 (by decide +kernel) rfl, zw_mem 34 (by decide +kernel) rfl, by decide +kernel, by decide +kernel, by decide +kernel⟩
theorem za_Mo_notReceived : Cond.instanceMethod ym_Mo_notReceived ∈ zw_WS := zw_mem 704 (by decide +kernel) rfl
theorem zb_Mo_notReceived : Cond.selects ym_Mo_notReceived.cls ym_Mo_notReceived ym_Mo_notReceived ∈ zw_WS := zw_mem 23 (by decide +kernel) rfl
def ym_Mo_timeout : MethodName := ⟨"TwinLedgersModel", "timeout", "(IIIIZ)I"⟩
abbrev bm_Mo_timeout : ByteArray := prog_9_method_27_code
theorem zk_Mo_timeout : Cond.code ym_Mo_timeout bm_Mo_timeout 9 (some .int) ∈ zw_WS ∧ Cond.initialized ym_Mo_timeout.cls ∈ zw_WS ∧ (ym_Mo_timeout.cls ≠ "java/lang/invoke/MethodHandle" ∧ ym_Mo_timeout.cls ≠ "java/lang/invoke/VarHandle" ∧ (parseMethodDescriptor ym_Mo_timeout.desc).map (fun d => d.parameters.length) = some 5) := ⟨zw_mem 701 (by decide +kernel) rfl, zw_mem 34 (by decide +kernel) rfl, by decide +kernel, by decide +kernel, by decide +kernel⟩
theorem za_Mo_timeout : Cond.instanceMethod ym_Mo_timeout ∈ zw_WS := zw_mem 699 (by decide +kernel) rfl
theorem zb_Mo_timeout : Cond.selects ym_Mo_timeout.cls ym_Mo_timeout ym_Mo_timeout ∈ zw_WS := zw_mem 700 (by decide +kernel) rfl
def ym_Mo_relay : MethodName := ⟨"TwinLedgersModel", "relay", "(III)I"⟩
abbrev bm_Mo_relay : ByteArray := prog_9_method_28_code
theorem zk_Mo_relay : Cond.code ym_Mo_relay bm_Mo_relay 9 (some .int) ∈ zw_WS ∧ Cond.initialized ym_Mo_relay.cls ∈ zw_WS ∧ (ym_Mo_relay.cls ≠ "java/lang/invoke/MethodHandle" ∧ ym_Mo_relay.cls ≠ "java/lang/invoke/VarHandle" ∧ (parseMethodDescriptor ym_Mo_relay.desc).map (fun d => d.parameters.length) = some 3) := ⟨zw_mem 715 (by decide +kernel) rfl, zw_mem 34 (by decide +kernel) rfl, by decide +kernel, by decide +kernel, by decide +kernel⟩
theorem za_Mo_relay : Cond.instanceMethod ym_Mo_relay ∈ zw_WS := zw_mem 714 (by decide +kernel) rfl
theorem zb_Mo_relay : Cond.selects ym_Mo_relay.cls ym_Mo_relay ym_Mo_relay ∈ zw_WS := zw_mem 24 (by decide +kernel) rfl
def ym_Mo_round : MethodName := ⟨"TwinLedgersModel", "round", "()I"⟩
abbrev bm_Mo_round : ByteArray := prog_9_method_29_code
theorem zk_Mo_round : Cond.code ym_Mo_round bm_Mo_round 7 (some .int) ∈ zw_WS ∧ Cond.initialized ym_Mo_round.cls ∈ zw_WS ∧ (ym_Mo_round.cls ≠ "java/lang/invoke/MethodHandle" ∧ ym_Mo_round.cls ≠ "java/lang/invoke/VarHandle" ∧ (parseMethodDescriptor ym_Mo_round.desc).map (fun d => d.parameters.length) = some 0) := ⟨zw_mem 709 (by decide +kernel) rfl, zw_mem 34 (by decide +kernel) rfl, by decide +kernel, by decide +kernel, by decide +kernel⟩
theorem za_Mo_round : Cond.instanceMethod ym_Mo_round ∈ zw_WS := zw_mem 707 (by decide +kernel) rfl
theorem zb_Mo_round : Cond.selects ym_Mo_round.cls ym_Mo_round ym_Mo_round ∈ zw_WS := zw_mem 708 (by decide +kernel) rfl
def ym_Mo_height : MethodName := ⟨"TwinLedgersModel", "height", "(I)I"⟩
abbrev bm_Mo_height : ByteArray := prog_9_method_30_code
theorem zk_Mo_height : Cond.code ym_Mo_height bm_Mo_height 2 (some .int) ∈ zw_WS ∧ Cond.initialized ym_Mo_height.cls ∈ zw_WS ∧ (ym_Mo_height.cls ≠ "java/lang/invoke/MethodHandle" ∧ ym_Mo_height.cls ≠ "java/lang/invoke/VarHandle" ∧ (parseMethodDescriptor ym_Mo_height.desc).map (fun d => d.parameters.length) = some 1) := ⟨zw_mem 722 (by decide +kernel) rfl, zw_mem 34 (by decide +kernel) rfl, by decide +kernel, by decide +kernel, by decide +kernel⟩
theorem za_Mo_height : Cond.instanceMethod ym_Mo_height ∈ zw_WS := zw_mem 720 (by decide +kernel) rfl
theorem zb_Mo_height : Cond.selects ym_Mo_height.cls ym_Mo_height ym_Mo_height ∈ zw_WS := zw_mem 721 (by decide +kernel) rfl
def ym_Mo_end : MethodName := ⟨"TwinLedgersModel", "end", "(III)I"⟩
abbrev bm_Mo_end : ByteArray := prog_9_method_31_code
theorem zk_Mo_end : Cond.code ym_Mo_end bm_Mo_end 5 (some .int) ∈ zw_WS ∧ Cond.initialized ym_Mo_end.cls ∈ zw_WS ∧ (ym_Mo_end.cls ≠ "java/lang/invoke/MethodHandle" ∧ ym_Mo_end.cls ≠ "java/lang/invoke/VarHandle" ∧ (parseMethodDescriptor ym_Mo_end.desc).map (fun d => d.parameters.length) = some 3) := ⟨zw_mem 726 (by decide +kernel) rfl, zw_mem 34 (by decide +kernel) rfl, by decide +kernel, by decide +kernel, by decide +kernel⟩
theorem za_Mo_end : Cond.instanceMethod ym_Mo_end ∈ zw_WS := zw_mem 724 (by decide +kernel) rfl
theorem zb_Mo_end : Cond.selects ym_Mo_end.cls ym_Mo_end ym_Mo_end ∈ zw_WS := zw_mem 725 (by decide +kernel) rfl
def ym_Mo_isPacket : MethodName := ⟨"TwinLedgersModel", "isPacket", "(III)Z"⟩
abbrev bm_Mo_isPacket : ByteArray := prog_9_method_32_code
theorem zk_Mo_isPacket : Cond.code ym_Mo_isPacket bm_Mo_isPacket 4 (some .boolean) ∈ zw_WS ∧ Cond.initialized ym_Mo_isPacket.cls ∈ zw_WS ∧ (ym_Mo_isPacket.cls ≠ "java/lang/invoke/MethodHandle" ∧ ym_Mo_isPacket.cls ≠ "java/lang/invoke/VarHandle" ∧ (parseMethodDescriptor ym_Mo_isPacket.desc).map (fun d => d.parameters.length) = some 3) := ⟨zw_mem 734 (by decide +kernel) rfl, zw_mem 34 (by decide +kernel) rfl, by decide +kernel, by decide +kernel, by decide +kernel⟩
theorem za_Mo_isPacket : Cond.instanceMethod ym_Mo_isPacket ∈ zw_WS := zw_mem 733 (by decide +kernel) rfl
theorem zb_Mo_isPacket : Cond.selects ym_Mo_isPacket.cls ym_Mo_isPacket ym_Mo_isPacket ∈ zw_WS := zw_mem 25 (by decide +kernel) rfl
def ym_Mo_packet : MethodName := ⟨"TwinLedgersModel", "packet", "(III)I"⟩
abbrev bm_Mo_packet : ByteArray := prog_9_method_33_code
theorem zk_Mo_packet : Cond.code ym_Mo_packet bm_Mo_packet 4 (some .int) ∈ zw_WS ∧ Cond.initialized ym_Mo_packet.cls ∈ zw_WS ∧ (ym_Mo_packet.cls ≠ "java/lang/invoke/MethodHandle" ∧ ym_Mo_packet.cls ≠ "java/lang/invoke/VarHandle" ∧ (parseMethodDescriptor ym_Mo_packet.desc).map (fun d => d.parameters.length) = some 3) := ⟨zw_mem 730 (by decide +kernel) rfl, zw_mem 34 (by decide +kernel) rfl, by decide +kernel, by decide +kernel, by decide +kernel⟩
theorem za_Mo_packet : Cond.instanceMethod ym_Mo_packet ∈ zw_WS := zw_mem 728 (by decide +kernel) rfl
theorem zb_Mo_packet : Cond.selects ym_Mo_packet.cls ym_Mo_packet ym_Mo_packet ∈ zw_WS := zw_mem 729 (by decide +kernel) rfl
def ym_Mo_limit : MethodName := ⟨"TwinLedgersModel", "limit", "(III)I"⟩
abbrev bm_Mo_limit : ByteArray := prog_9_method_34_code
theorem zk_Mo_limit : Cond.code ym_Mo_limit bm_Mo_limit 4 (some .int) ∈ zw_WS ∧ Cond.initialized ym_Mo_limit.cls ∈ zw_WS ∧ (ym_Mo_limit.cls ≠ "java/lang/invoke/MethodHandle" ∧ ym_Mo_limit.cls ≠ "java/lang/invoke/VarHandle" ∧ (parseMethodDescriptor ym_Mo_limit.desc).map (fun d => d.parameters.length) = some 3) := ⟨zw_mem 738 (by decide +kernel) rfl, zw_mem 34 (by decide +kernel) rfl, by decide +kernel, by decide +kernel, by decide +kernel⟩
theorem za_Mo_limit : Cond.instanceMethod ym_Mo_limit ∈ zw_WS := zw_mem 736 (by decide +kernel) rfl
theorem zb_Mo_limit : Cond.selects ym_Mo_limit.cls ym_Mo_limit ym_Mo_limit ∈ zw_WS := zw_mem 737 (by decide +kernel) rfl
def ym_Mo_balance : MethodName := ⟨"TwinLedgersModel", "balance", "(III)I"⟩
abbrev bm_Mo_balance : ByteArray := prog_9_method_35_code
theorem zk_Mo_balance : Cond.code ym_Mo_balance bm_Mo_balance 4 (some .int) ∈ zw_WS ∧ Cond.initialized ym_Mo_balance.cls ∈ zw_WS ∧ (ym_Mo_balance.cls ≠ "java/lang/invoke/MethodHandle" ∧ ym_Mo_balance.cls ≠ "java/lang/invoke/VarHandle" ∧ (parseMethodDescriptor ym_Mo_balance.desc).map (fun d => d.parameters.length) = some 3) := ⟨zw_mem 742 (by decide +kernel) rfl, zw_mem 34 (by decide +kernel) rfl, by decide +kernel, by decide +kernel, by decide +kernel⟩
theorem za_Mo_balance : Cond.instanceMethod ym_Mo_balance ∈ zw_WS := zw_mem 740 (by decide +kernel) rfl
theorem zb_Mo_balance : Cond.selects ym_Mo_balance.cls ym_Mo_balance ym_Mo_balance ∈ zw_WS := zw_mem 741 (by decide +kernel) rfl
def ym_Mo_escrow : MethodName := ⟨"TwinLedgersModel", "escrow", "(III)I"⟩
abbrev bm_Mo_escrow : ByteArray := prog_9_method_36_code
theorem zk_Mo_escrow : Cond.code ym_Mo_escrow bm_Mo_escrow 4 (some .int) ∈ zw_WS ∧ Cond.initialized ym_Mo_escrow.cls ∈ zw_WS ∧ (ym_Mo_escrow.cls ≠ "java/lang/invoke/MethodHandle" ∧ ym_Mo_escrow.cls ≠ "java/lang/invoke/VarHandle" ∧ (parseMethodDescriptor ym_Mo_escrow.desc).map (fun d => d.parameters.length) = some 3) := ⟨zw_mem 746 (by decide +kernel) rfl, zw_mem 34 (by decide +kernel) rfl, by decide +kernel, by decide +kernel, by decide +kernel⟩
theorem za_Mo_escrow : Cond.instanceMethod ym_Mo_escrow ∈ zw_WS := zw_mem 744 (by decide +kernel) rfl
theorem zb_Mo_escrow : Cond.selects ym_Mo_escrow.cls ym_Mo_escrow ym_Mo_escrow ∈ zw_WS := zw_mem 745 (by decide +kernel) rfl
def ym_Mo_voucher : MethodName := ⟨"TwinLedgersModel", "voucher", "(II)I"⟩
abbrev bm_Mo_voucher : ByteArray := prog_9_method_37_code
theorem zk_Mo_voucher : Cond.code ym_Mo_voucher bm_Mo_voucher 3 (some .int) ∈ zw_WS ∧ Cond.initialized ym_Mo_voucher.cls ∈ zw_WS ∧ (ym_Mo_voucher.cls ≠ "java/lang/invoke/MethodHandle" ∧ ym_Mo_voucher.cls ≠ "java/lang/invoke/VarHandle" ∧ (parseMethodDescriptor ym_Mo_voucher.desc).map (fun d => d.parameters.length) = some 2) := ⟨zw_mem 750 (by decide +kernel) rfl, zw_mem 34 (by decide +kernel) rfl, by decide +kernel, by decide +kernel, by decide +kernel⟩
theorem za_Mo_voucher : Cond.instanceMethod ym_Mo_voucher ∈ zw_WS := zw_mem 748 (by decide +kernel) rfl
theorem zb_Mo_voucher : Cond.selects ym_Mo_voucher.cls ym_Mo_voucher ym_Mo_voucher ∈ zw_WS := zw_mem 749 (by decide +kernel) rfl
def ym_Integer_bitCount : MethodName := ⟨"java/lang/Integer", "bitCount", "(I)I"⟩
abbrev bm_Integer_bitCount : ByteArray := prog_10_method_49_code
theorem zk_Integer_bitCount : Cond.code ym_Integer_bitCount bm_Integer_bitCount 1 (some .int) ∈ zw_WS ∧ Cond.initialized ym_Integer_bitCount.cls ∈ zw_WS ∧ (ym_Integer_bitCount.cls ≠ "java/lang/invoke/MethodHandle" ∧ ym_Integer_bitCount.cls ≠ "java/lang/invoke/VarHandle" ∧ (parseMethodDescriptor ym_Integer_bitCount.desc).map (fun d => d.parameters.length) = some 1) := ⟨zw_mem 229 (by decide +kernel) rfl, zw_mem 35 (by decide +kernel) rfl, by decide +kernel, by decide +kernel, by decide +kernel⟩
theorem za_Integer_bitCount : Cond.static ym_Integer_bitCount ∈ zw_WS := zw_mem 228 (by decide +kernel) rfl
