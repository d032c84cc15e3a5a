section
def lw_okq (q : MethodName × Nat) : Prop := (q.1.cls ≠ "java/lang/invoke/MethodHandle" ∧ q.1.cls ≠ "java/lang/invoke/VarHandle") ∧ Cond.instantiable q.1.cls q.2 ∈ tables_1 ∧ Cond.privateMethod q.1 ∈ tables_1 ∧ Cond.instanceMethod q.1 ∈ tables_1
theorem lw_p0 : lw_okq (⟨"TransactionCores", "sendRequest", "(IIZ)V"⟩, 4) := ⟨⟨by decide +kernel, by decide +kernel⟩, List.mem_of_getElem? (i := 16) (by decide +kernel), List.mem_of_getElem? (i := 166) (by decide +kernel), List.mem_of_getElem? (i := 167) (by decide +kernel)⟩
theorem lw_p1 : lw_okq (⟨"TransactionCores$Cache", "firstOfSet", "(I)I"⟩, 3) := ⟨⟨by decide +kernel, by decide +kernel⟩, List.mem_of_getElem? (i := 47) (by decide +kernel), List.mem_of_getElem? (i := 174) (by decide +kernel), List.mem_of_getElem? (i := 175) (by decide +kernel)⟩
theorem lw_p2 : lw_okq (⟨"TransactionCores", "meetRequest", "(LTransactionCores$Core;LTransactionCores$Way;Z)V"⟩, 4) := ⟨⟨by decide +kernel, by decide +kernel⟩, List.mem_of_getElem? (i := 16) (by decide +kernel), List.mem_of_getElem? (i := 178) (by decide +kernel), List.mem_of_getElem? (i := 179) (by decide +kernel)⟩
theorem lw_p3 : lw_okq (⟨"java/lang/Throwable", "fillInStackTrace", "(I)Ljava/lang/Throwable;"⟩, 6) := ⟨⟨by decide +kernel, by decide +kernel⟩, List.mem_of_getElem? (i := 278) (by decide +kernel), List.mem_of_getElem? (i := 276) (by decide +kernel), List.mem_of_getElem? (i := 277) (by decide +kernel)⟩
theorem lw_p4 : lw_okq (⟨"TransactionCores", "takeStep", "(LTransactionCores$Core;)I"⟩, 4) := ⟨⟨by decide +kernel, by decide +kernel⟩, List.mem_of_getElem? (i := 16) (by decide +kernel), List.mem_of_getElem? (i := 315) (by decide +kernel), List.mem_of_getElem? (i := 316) (by decide +kernel)⟩
theorem lw_p5 : lw_okq (⟨"TransactionCores", "load", "(LTransactionCores$Core;I)I"⟩, 4) := ⟨⟨by decide +kernel, by decide +kernel⟩, List.mem_of_getElem? (i := 16) (by decide +kernel), List.mem_of_getElem? (i := 343) (by decide +kernel), List.mem_of_getElem? (i := 344) (by decide +kernel)⟩
theorem lw_p6 : lw_okq (⟨"TransactionCores", "access", "(LTransactionCores$Core;IZ)LTransactionCores$Way;"⟩, 4) := ⟨⟨by decide +kernel, by decide +kernel⟩, List.mem_of_getElem? (i := 16) (by decide +kernel), List.mem_of_getElem? (i := 351) (by decide +kernel), List.mem_of_getElem? (i := 352) (by decide +kernel)⟩
theorem lw_p7 : lw_okq (⟨"TransactionCores", "refill", "(LTransactionCores$Way;I)V"⟩, 4) := ⟨⟨by decide +kernel, by decide +kernel⟩, List.mem_of_getElem? (i := 16) (by decide +kernel), List.mem_of_getElem? (i := 359) (by decide +kernel), List.mem_of_getElem? (i := 360) (by decide +kernel)⟩
theorem lw_p8 : lw_okq (⟨"TransactionCores", "makeModified", "(LTransactionCores$Way;Z)V"⟩, 4) := ⟨⟨by decide +kernel, by decide +kernel⟩, List.mem_of_getElem? (i := 16) (by decide +kernel), List.mem_of_getElem? (i := 368) (by decide +kernel), List.mem_of_getElem? (i := 369) (by decide +kernel)⟩
theorem lw_p9 : lw_okq (⟨"TransactionCores", "save", "(LTransactionCores$Core;I)I"⟩, 4) := ⟨⟨by decide +kernel, by decide +kernel⟩, List.mem_of_getElem? (i := 16) (by decide +kernel), List.mem_of_getElem? (i := 373) (by decide +kernel), List.mem_of_getElem? (i := 374) (by decide +kernel)⟩
theorem lw_p10 : lw_okq (⟨"TransactionCoresModel", "isCore", "(I)Z"⟩, 21) := ⟨⟨by decide +kernel, by decide +kernel⟩, List.mem_of_getElem? (i := 476) (by decide +kernel), List.mem_of_getElem? (i := 555) (by decide +kernel), List.mem_of_getElem? (i := 556) (by decide +kernel)⟩
theorem lw_p11 : lw_okq (⟨"TransactionCoresModel", "meet", "(IIZ)V"⟩, 21) := ⟨⟨by decide +kernel, by decide +kernel⟩, List.mem_of_getElem? (i := 476) (by decide +kernel), List.mem_of_getElem? (i := 563) (by decide +kernel), List.mem_of_getElem? (i := 564) (by decide +kernel)⟩
theorem lw_p12 : lw_okq (⟨"TransactionCoresModel", "find", "(II)I"⟩, 21) := ⟨⟨by decide +kernel, by decide +kernel⟩, List.mem_of_getElem? (i := 476) (by decide +kernel), List.mem_of_getElem? (i := 567) (by decide +kernel), List.mem_of_getElem? (i := 568) (by decide +kernel)⟩
theorem lw_p13 : lw_okq (⟨"TransactionCoresModel", "place", "(III)I"⟩, 21) := ⟨⟨by decide +kernel, by decide +kernel⟩, List.mem_of_getElem? (i := 476) (by decide +kernel), List.mem_of_getElem? (i := 571) (by decide +kernel), List.mem_of_getElem? (i := 572) (by decide +kernel)⟩
theorem lw_p14 : lw_okq (⟨"TransactionCoresModel", "abort", "(III)V"⟩, 21) := ⟨⟨by decide +kernel, by decide +kernel⟩, List.mem_of_getElem? (i := 476) (by decide +kernel), List.mem_of_getElem? (i := 575) (by decide +kernel), List.mem_of_getElem? (i := 576) (by decide +kernel)⟩
theorem lw_p15 : lw_okq (⟨"TransactionCoresModel", "toMemory", "(I)V"⟩, 21) := ⟨⟨by decide +kernel, by decide +kernel⟩, List.mem_of_getElem? (i := 476) (by decide +kernel), List.mem_of_getElem? (i := 579) (by decide +kernel), List.mem_of_getElem? (i := 580) (by decide +kernel)⟩
def lw_privs_1 : List (MethodName × Nat) := [(⟨"TransactionCores", "sendRequest", "(IIZ)V"⟩, 4), (⟨"TransactionCores$Cache", "firstOfSet", "(I)I"⟩, 3), (⟨"TransactionCores", "meetRequest", "(LTransactionCores$Core;LTransactionCores$Way;Z)V"⟩, 4), (⟨"java/lang/Throwable", "fillInStackTrace", "(I)Ljava/lang/Throwable;"⟩, 6), (⟨"TransactionCores", "takeStep", "(LTransactionCores$Core;)I"⟩, 4), (⟨"TransactionCores", "load", "(LTransactionCores$Core;I)I"⟩, 4), (⟨"TransactionCores", "access", "(LTransactionCores$Core;IZ)LTransactionCores$Way;"⟩, 4), (⟨"TransactionCores", "refill", "(LTransactionCores$Way;I)V"⟩, 4), (⟨"TransactionCores", "makeModified", "(LTransactionCores$Way;Z)V"⟩, 4), (⟨"TransactionCores", "save", "(LTransactionCores$Core;I)I"⟩, 4), (⟨"TransactionCoresModel", "isCore", "(I)Z"⟩, 21), (⟨"TransactionCoresModel", "meet", "(IIZ)V"⟩, 21), (⟨"TransactionCoresModel", "find", "(II)I"⟩, 21), (⟨"TransactionCoresModel", "place", "(III)I"⟩, 21), (⟨"TransactionCoresModel", "abort", "(III)V"⟩, 21), (⟨"TransactionCoresModel", "toMemory", "(I)V"⟩, 21)]
theorem lw_r1 : ∀ q ∈ lw_privs_1, lw_okq q := List.forall_mem_cons.mpr ⟨lw_p0, List.forall_mem_cons.mpr ⟨lw_p1, List.forall_mem_cons.mpr ⟨lw_p2, List.forall_mem_cons.mpr ⟨lw_p3, List.forall_mem_cons.mpr ⟨lw_p4, List.forall_mem_cons.mpr ⟨lw_p5, List.forall_mem_cons.mpr ⟨lw_p6, List.forall_mem_cons.mpr ⟨lw_p7, List.forall_mem_cons.mpr ⟨lw_p8, List.forall_mem_cons.mpr ⟨lw_p9, List.forall_mem_cons.mpr ⟨lw_p10, List.forall_mem_cons.mpr ⟨lw_p11, List.forall_mem_cons.mpr ⟨lw_p12, List.forall_mem_cons.mpr ⟨lw_p13, List.forall_mem_cons.mpr ⟨lw_p14, List.forall_mem_cons.mpr ⟨lw_p15, fun _ h => absurd h List.not_mem_nil⟩⟩⟩⟩⟩⟩⟩⟩⟩⟩⟩⟩⟩⟩⟩⟩
theorem lw_p16 : lw_okq (⟨"TransactionCoresModel", "stepped", "(I)I"⟩, 21) := ⟨⟨by decide +kernel, by decide +kernel⟩, List.mem_of_getElem? (i := 476) (by decide +kernel), List.mem_of_getElem? (i := 591) (by decide +kernel), List.mem_of_getElem? (i := 592) (by decide +kernel)⟩
theorem lw_p17 : lw_okq (⟨"TransactionCoresModel", "moved", "(IIIZ)I"⟩, 21) := ⟨⟨by decide +kernel, by decide +kernel⟩, List.mem_of_getElem? (i := 476) (by decide +kernel), List.mem_of_getElem? (i := 595) (by decide +kernel), List.mem_of_getElem? (i := 596) (by decide +kernel)⟩
theorem lw_p18 : lw_okq (⟨"TransactionCoresModel", "access", "(IIZ)I"⟩, 21) := ⟨⟨by decide +kernel, by decide +kernel⟩, List.mem_of_getElem? (i := 476) (by decide +kernel), List.mem_of_getElem? (i := 599) (by decide +kernel), List.mem_of_getElem? (i := 600) (by decide +kernel)⟩
theorem lw_p19 : lw_okq (⟨"TransactionCoresModel", "room", "(II)I"⟩, 21) := ⟨⟨by decide +kernel, by decide +kernel⟩, List.mem_of_getElem? (i := 476) (by decide +kernel), List.mem_of_getElem? (i := 603) (by decide +kernel), List.mem_of_getElem? (i := 604) (by decide +kernel)⟩
theorem lw_p20 : lw_okq (⟨"TransactionCoresModel", "ruled", "(III)I"⟩, 21) := ⟨⟨by decide +kernel, by decide +kernel⟩, List.mem_of_getElem? (i := 476) (by decide +kernel), List.mem_of_getElem? (i := 607) (by decide +kernel), List.mem_of_getElem? (i := 608) (by decide +kernel)⟩
theorem lw_p21 : lw_okq (⟨"TransactionCoresModel", "fault", "(I)I"⟩, 21) := ⟨⟨by decide +kernel, by decide +kernel⟩, List.mem_of_getElem? (i := 476) (by decide +kernel), List.mem_of_getElem? (i := 611) (by decide +kernel), List.mem_of_getElem? (i := 612) (by decide +kernel)⟩
theorem lw_p22 : lw_okq (⟨"TransactionCoresModel", "fail", "(I)I"⟩, 21) := ⟨⟨by decide +kernel, by decide +kernel⟩, List.mem_of_getElem? (i := 476) (by decide +kernel), List.mem_of_getElem? (i := 627) (by decide +kernel), List.mem_of_getElem? (i := 628) (by decide +kernel)⟩
def lw_privs_2 : List (MethodName × Nat) := [(⟨"TransactionCoresModel", "stepped", "(I)I"⟩, 21), (⟨"TransactionCoresModel", "moved", "(IIIZ)I"⟩, 21), (⟨"TransactionCoresModel", "access", "(IIZ)I"⟩, 21), (⟨"TransactionCoresModel", "room", "(II)I"⟩, 21), (⟨"TransactionCoresModel", "ruled", "(III)I"⟩, 21), (⟨"TransactionCoresModel", "fault", "(I)I"⟩, 21), (⟨"TransactionCoresModel", "fail", "(I)I"⟩, 21)]
theorem lw_r2 : ∀ q ∈ lw_privs_2, lw_okq q := List.forall_mem_cons.mpr ⟨lw_p16, List.forall_mem_cons.mpr ⟨lw_p17, List.forall_mem_cons.mpr ⟨lw_p18, List.forall_mem_cons.mpr ⟨lw_p19, List.forall_mem_cons.mpr ⟨lw_p20, List.forall_mem_cons.mpr ⟨lw_p21, List.forall_mem_cons.mpr ⟨lw_p22, fun _ h => absurd h List.not_mem_nil⟩⟩⟩⟩⟩⟩⟩
def lw_privs : List (MethodName × Nat) := lw_privs_1 ++ (lw_privs_2)
def lw_tbl : List Cond := k2_sels lw_privs ++ tables_1
theorem lw_privs_ok : ∀ q ∈ lw_privs, lw_okq q := by
  show ∀ q ∈ lw_privs_1 ++ (lw_privs_2), lw_okq q
  exact List.forall_mem_append.mpr ⟨lw_r1, lw_r2⟩
end
section
def R_TC : String := "TransactionCores"
def F_TC : u_T := fun k => match k with
  | 0 => ("TransactionCores", "store", "LTransactionCores$Store;", true)
  | 1 => ("TransactionCores", "cores", "[LTransactionCores$Core;", true)
  | 2 => ("TransactionCores", "requestCount", "I", false)
  | _ => ("TransactionCores", "accessCount", "I", false)
def t_TC : Nat → FieldType := fun k => match k with
  | 0 => .object "TransactionCores$Store"
  | 1 => .array (.object "TransactionCores$Core")
  | 2 => .int
  | _ => .int
theorem n_TC : ∀ a, a < 4 → ∀ b, b < 4 → a ≠ b → (F_TC a).2.1 ≠ (F_TC b).2.1 := by decide +kernel
theorem t_TC_ok : ∀ k, k < 4 → parseFieldDescriptor (F_TC k).2.2.1 = some (t_TC k) := by decide +kernel
def R_Store : String := "TransactionCores$Store"
def F_Store : u_T := fun k => match k with
  | _ => ("TransactionCores$Store", "words", "[I", true)
def t_Store : Nat → FieldType := fun k => match k with
  | _ => .array .int
theorem n_Store : ∀ a, a < 1 → ∀ b, b < 1 → a ≠ b → (F_Store a).2.1 ≠ (F_Store b).2.1 := by decide +kernel
theorem t_Store_ok : ∀ k, k < 1 → parseFieldDescriptor (F_Store k).2.2.1 = some (t_Store k) := by decide +kernel
def R_Core : String := "TransactionCores$Core"
def F_Core : u_T := fun k => match k with
  | 0 => ("TransactionCores$Core", "number", "I", true)
  | 1 => ("TransactionCores$Core", "cache", "LTransactionCores$Cache;", true)
  | 2 => ("TransactionCores$Core", "program", "[I", true)
  | 3 => ("TransactionCores$Core", "registers", "[I", true)
  | 4 => ("TransactionCores$Core", "noted", "[I", true)
  | 5 => ("TransactionCores$Core", "fates", "[I", true)
  | 6 => ("TransactionCores$Core", "pc", "I", false)
  | 7 => ("TransactionCores$Core", "fallback", "I", false)
  | 8 => ("TransactionCores$Core", "depth", "I", false)
  | _ => ("TransactionCores$Core", "stopped", "Z", false)
def t_Core : Nat → FieldType := fun k => match k with
  | 0 => .int
  | 1 => .object "TransactionCores$Cache"
  | 2 => .array .int
  | 3 => .array .int
  | 4 => .array .int
  | 5 => .array .int
  | 6 => .int
  | 7 => .int
  | 8 => .int
  | _ => .boolean
theorem n_Core : ∀ a, a < 10 → ∀ b, b < 10 → a ≠ b → (F_Core a).2.1 ≠ (F_Core b).2.1 := by decide +kernel
theorem t_Core_ok : ∀ k, k < 10 → parseFieldDescriptor (F_Core k).2.2.1 = some (t_Core k) := by decide +kernel
def R_Cache : String := "TransactionCores$Cache"
def F_Cache : u_T := fun k => match k with
  | 0 => ("TransactionCores$Cache", "sets", "I", true)
  | 1 => ("TransactionCores$Cache", "waysOfSet", "I", true)
  | _ => ("TransactionCores$Cache", "ways", "[LTransactionCores$Way;", true)
def t_Cache : Nat → FieldType := fun k => match k with
  | 0 => .int
  | 1 => .int
  | _ => .array (.object "TransactionCores$Way")
theorem n_Cache : ∀ a, a < 3 → ∀ b, b < 3 → a ≠ b → (F_Cache a).2.1 ≠ (F_Cache b).2.1 := by decide +kernel
theorem t_Cache_ok : ∀ k, k < 3 → parseFieldDescriptor (F_Cache k).2.2.1 = some (t_Cache k) := by decide +kernel
def R_Way : String := "TransactionCores$Way"
def F_Way : u_T := fun k => match k with
  | 0 => ("TransactionCores$Way", "state", "I", false)
  | 1 => ("TransactionCores$Way", "line", "I", false)
  | 2 => ("TransactionCores$Way", "marks", "I", false)
  | 3 => ("TransactionCores$Way", "evenWord", "I", false)
  | 4 => ("TransactionCores$Way", "oddWord", "I", false)
  | _ => ("TransactionCores$Way", "latestUse", "I", false)
def t_Way : Nat → FieldType := fun k => match k with
  | 0 => .int
  | 1 => .int
  | 2 => .int
  | 3 => .int
  | 4 => .int
  | _ => .int
theorem n_Way : ∀ a, a < 6 → ∀ b, b < 6 → a ≠ b → (F_Way a).2.1 ≠ (F_Way b).2.1 := by decide +kernel
theorem t_Way_ok : ∀ k, k < 6 → parseFieldDescriptor (F_Way k).2.2.1 = some (t_Way k) := by decide +kernel
def R_Model : String := "TransactionCoresModel"
def F_Model : u_T := fun k => match k with
  | 0 => ("TransactionCoresModel", "cores", "I", true)
  | 1 => ("TransactionCoresModel", "sets", "I", true)
  | 2 => ("TransactionCoresModel", "ways", "I", true)
  | 3 => ("TransactionCoresModel", "code", "I", false)
  | 4 => ("TransactionCoresModel", "clock", "I", false)
  | 5 => ("TransactionCoresModel", "requests", "I", false)
  | 6 => ("TransactionCoresModel", "memory", "[I", true)
  | 7 => ("TransactionCoresModel", "registers", "[I", true)
  | 8 => ("TransactionCoresModel", "noted", "[I", true)
  | 9 => ("TransactionCoresModel", "program", "[I", true)
  | 10 => ("TransactionCoresModel", "pc", "[I", true)
  | 11 => ("TransactionCoresModel", "depth", "[I", true)
  | 12 => ("TransactionCoresModel", "fallback", "[I", true)
  | 13 => ("TransactionCoresModel", "stopped", "[Z", true)
  | 14 => ("TransactionCoresModel", "fates", "[I", true)
  | 15 => ("TransactionCoresModel", "state", "[I", true)
  | 16 => ("TransactionCoresModel", "line", "[I", true)
  | 17 => ("TransactionCoresModel", "marks", "[I", true)
  | 18 => ("TransactionCoresModel", "low", "[I", true)
  | 19 => ("TransactionCoresModel", "high", "[I", true)
  | _ => ("TransactionCoresModel", "used", "[I", true)
def t_Model : Nat → FieldType := fun k => match k with
  | 0 => .int
  | 1 => .int
  | 2 => .int
  | 3 => .int
  | 4 => .int
  | 5 => .int
  | 6 => .array .int
  | 7 => .array .int
  | 8 => .array .int
  | 9 => .array .int
  | 10 => .array .int
  | 11 => .array .int
  | 12 => .array .int
  | 13 => .array .boolean
  | 14 => .array .int
  | 15 => .array .int
  | 16 => .array .int
  | 17 => .array .int
  | 18 => .array .int
  | 19 => .array .int
  | _ => .array .int
theorem n_Model : ∀ a, a < 21 → ∀ b, b < 21 → a ≠ b → (F_Model a).2.1 ≠ (F_Model b).2.1 := by decide +kernel
theorem t_Model_ok : ∀ k, k < 21 → parseFieldDescriptor (F_Model k).2.2.1 = some (t_Model k) := by decide +kernel
def R_Law : String := "TransactionCoresLaw"
abbrev classes : List vw_C := [(R_TC, F_TC, 4), (R_Store, F_Store, 1), (R_Core, F_Core, 10), (R_Cache, F_Cache, 3), (R_Way, F_Way, 6), (R_Model, F_Model, 21)]
def WS : List Cond := lw_tbl.filter goodWord
theorem WS_good : WS.all goodWord = true := List.all_eq_true.mpr (fun w hw => (List.mem_filter.mp hw).2)
def nestB (w : Cond) : Bool := match w with
  | .fieldLinkNest .. => true
  | .methodLinkNest .. => true
  | .arrayOver (.object _) => true
  | _ => false
def NW : List Cond := lw_tbl.filter nestB
theorem WS_t {w : Cond} (i : Nat) (h : tables_1[i]? = some w) (hg : goodWord w = true) : w ∈ WS := List.mem_filter.mpr ⟨List.mem_append_right _ (List.mem_of_getElem? h), hg⟩
theorem WS_p {w : Cond} (i : Nat) (h : (k2_sels lw_privs)[i]? = some w) (hg : goodWord w = true) : w ∈ WS := List.mem_filter.mpr ⟨List.mem_append_left _ (List.mem_of_getElem? h), hg⟩
theorem NW_t {w : Cond} (i : Nat) (h : tables_1[i]? = some w) (hg : nestB w = true) : w ∈ NW := List.mem_filter.mpr ⟨List.mem_append_right _ (List.mem_of_getElem? h), hg⟩
theorem hc_TC : classes[0]? = some (R_TC, F_TC, 4) := rfl
theorem hi_TC : ∀ w ∈ u_ws R_TC F_TC 4, w ∈ WS := by decide +kernel
theorem hc_Store : classes[1]? = some (R_Store, F_Store, 1) := rfl
theorem hi_Store : ∀ w ∈ u_ws R_Store F_Store 1, w ∈ WS := by decide +kernel
theorem hc_Core : classes[2]? = some (R_Core, F_Core, 10) := rfl
theorem hi_Core : ∀ w ∈ u_ws R_Core F_Core 10, w ∈ WS := by decide +kernel
theorem hc_Cache : classes[3]? = some (R_Cache, F_Cache, 3) := rfl
theorem hi_Cache : ∀ w ∈ u_ws R_Cache F_Cache 3, w ∈ WS := by decide +kernel
theorem hc_Way : classes[4]? = some (R_Way, F_Way, 6) := rfl
theorem hi_Way : ∀ w ∈ u_ws R_Way F_Way 6, w ∈ WS := by decide +kernel
theorem hc_Model : classes[5]? = some (R_Model, F_Model, 21) := rfl
theorem hi_Model : ∀ w ∈ u_ws R_Model F_Model 21, w ∈ WS := by decide +kernel
abbrev b_TC_init : ByteArray := prog_1_method_1_code
def y_TC_init : MethodName := ⟨R_TC, "<init>", "(III)V"⟩
abbrev b_TC_oneToThree : ByteArray := prog_1_method_14_code
def y_TC_oneToThree : MethodName := ⟨R_TC, "oneToThree", "(I)I"⟩
abbrev b_Store_init : ByteArray := prog_4_method_1_code
def y_Store_init : MethodName := ⟨R_Store, "<init>", "()V"⟩
abbrev b_TC_nearestSets : ByteArray := prog_1_method_15_code
def y_TC_nearestSets : MethodName := ⟨R_TC, "nearestSets", "(I)I"⟩
abbrev b_Cache_init : ByteArray := prog_2_method_1_code
def y_Cache_init : MethodName := ⟨R_Cache, "<init>", "(II)V"⟩
abbrev b_Way_init : ByteArray := prog_5_method_1_code
def y_Way_init : MethodName := ⟨R_Way, "<init>", "()V"⟩
abbrev b_Core_init : ByteArray := prog_3_method_1_code
def y_Core_init : MethodName := ⟨R_Core, "<init>", "(ILTransactionCores$Cache;)V"⟩
abbrev b_TC_poke : ByteArray := prog_1_method_3_code
def y_TC_poke : MethodName := ⟨R_TC, "poke", "(II)V"⟩
abbrev b_TC_lineOf : ByteArray := prog_1_method_17_code
def y_TC_lineOf : MethodName := ⟨R_TC, "lineOf", "(I)I"⟩
abbrev b_TC_sendRequest : ByteArray := prog_1_method_29_code
def y_TC_sendRequest : MethodName := ⟨R_TC, "sendRequest", "(IIZ)V"⟩
abbrev b_Cache_find : ByteArray := prog_2_method_2_code
def y_Cache_find : MethodName := ⟨R_Cache, "find", "(I)LTransactionCores$Way;"⟩
abbrev b_Cache_firstOfSet : ByteArray := prog_2_method_6_code
def y_Cache_firstOfSet : MethodName := ⟨R_Cache, "firstOfSet", "(I)I"⟩
abbrev b_TC_meetRequest : ByteArray := prog_1_method_30_code
def y_TC_meetRequest : MethodName := ⟨R_TC, "meetRequest", "(LTransactionCores$Core;LTransactionCores$Way;Z)V"⟩
abbrev b_Core_abort : ByteArray := prog_3_method_9_code
def y_Core_abort : MethodName := ⟨R_Core, "abort", "(II)I"⟩
abbrev b_Cache_dropWritten : ByteArray := prog_2_method_4_code
def y_Cache_dropWritten : MethodName := ⟨R_Cache, "dropWritten", "()V"⟩
abbrev b_Cache_dropMarks : ByteArray := prog_2_method_5_code
def y_Cache_dropMarks : MethodName := ⟨R_Cache, "dropMarks", "()V"⟩
abbrev b_Store_keep : ByteArray := prog_4_method_4_code
def y_Store_keep : MethodName := ⟨R_Store, "keep", "(LTransactionCores$Way;)V"⟩
abbrev b_Store_put : ByteArray := prog_4_method_3_code
def y_Store_put : MethodName := ⟨R_Store, "put", "(II)V"⟩
abbrev b_TC_peek : ByteArray := prog_1_method_4_code
def y_TC_peek : MethodName := ⟨R_TC, "peek", "(I)I"⟩
abbrev b_Way_get : ByteArray := prog_5_method_2_code
def y_Way_get : MethodName := ⟨R_Way, "get", "(I)I"⟩
abbrev b_Store_get : ByteArray := prog_4_method_2_code
def y_Store_get : MethodName := ⟨R_Store, "get", "(I)I"⟩
abbrev b_TC_memory : ByteArray := prog_1_method_11_code
def y_TC_memory : MethodName := ⟨R_TC, "memory", "(I)I"⟩
abbrev b_TC_requests : ByteArray := prog_1_method_12_code
def y_TC_requests : MethodName := ⟨R_TC, "requests", "()I"⟩
abbrev b_Law_cell : ByteArray := method_2_code
def y_Law_cell : MethodName := ⟨R_Law, "cell", "([II)I"⟩
abbrev b_Law_code : ByteArray := method_3_code
def y_Law_code : MethodName := ⟨R_Law, "code", "(LTransactionCores;III)I"⟩
abbrev b_TC_code : ByteArray := prog_1_method_2_code
def y_TC_code : MethodName := ⟨R_TC, "code", "(III)V"⟩
abbrev b_TC_checkThere : ByteArray := prog_1_method_13_code
def y_TC_checkThere : MethodName := ⟨R_TC, "checkThere", "(II)V"⟩
abbrev b_Law_step : ByteArray := method_4_code
def y_Law_step : MethodName := ⟨R_Law, "step", "(LTransactionCores;I[J)I"⟩
abbrev b_TC_step : ByteArray := prog_1_method_5_code
def y_TC_step : MethodName := ⟨R_TC, "step", "(I)I"⟩
abbrev b_TC_takeStep : ByteArray := prog_1_method_23_code
def y_TC_takeStep : MethodName := ⟨R_TC, "takeStep", "(LTransactionCores$Core;)I"⟩
abbrev b_TC_place : ByteArray := prog_1_method_16_code
def y_TC_place : MethodName := ⟨R_TC, "place", "(I)I"⟩
abbrev b_TC_kindOf : ByteArray := prog_1_method_18_code
def y_TC_kindOf : MethodName := ⟨R_TC, "kindOf", "(I)I"⟩
abbrev b_Core_reckon : ByteArray := prog_3_method_2_code
def y_Core_reckon : MethodName := ⟨R_Core, "reckon", "(I)V"⟩
abbrev b_TC_registerB : ByteArray := prog_1_method_20_code
def y_TC_registerB : MethodName := ⟨R_TC, "registerB", "(I)I"⟩
abbrev b_TC_registerC : ByteArray := prog_1_method_21_code
def y_TC_registerC : MethodName := ⟨R_TC, "registerC", "(I)I"⟩
abbrev b_TC_immediateOf : ByteArray := prog_1_method_22_code
def y_TC_immediateOf : MethodName := ⟨R_TC, "immediateOf", "(I)I"⟩
abbrev b_TC_registerA : ByteArray := prog_1_method_19_code
def y_TC_registerA : MethodName := ⟨R_TC, "registerA", "(I)I"⟩
abbrev b_TC_load : ByteArray := prog_1_method_24_code
def y_TC_load : MethodName := ⟨R_TC, "load", "(LTransactionCores$Core;I)I"⟩
abbrev b_Core_addressOf : ByteArray := prog_3_method_3_code
def y_Core_addressOf : MethodName := ⟨R_Core, "addressOf", "(I)I"⟩
abbrev b_TC_access : ByteArray := prog_1_method_26_code
def y_TC_access : MethodName := ⟨R_TC, "access", "(LTransactionCores$Core;IZ)LTransactionCores$Way;"⟩
abbrev b_Cache_room : ByteArray := prog_2_method_3_code
def y_Cache_room : MethodName := ⟨R_Cache, "room", "(I)LTransactionCores$Way;"⟩
abbrev b_TC_refill : ByteArray := prog_1_method_27_code
def y_TC_refill : MethodName := ⟨R_TC, "refill", "(LTransactionCores$Way;I)V"⟩
abbrev b_Store_fill : ByteArray := prog_4_method_5_code
def y_Store_fill : MethodName := ⟨R_Store, "fill", "(LTransactionCores$Way;I)V"⟩
abbrev b_TC_makeModified : ByteArray := prog_1_method_28_code
def y_TC_makeModified : MethodName := ⟨R_TC, "makeModified", "(LTransactionCores$Way;Z)V"⟩
abbrev b_TC_save : ByteArray := prog_1_method_25_code
def y_TC_save : MethodName := ⟨R_TC, "save", "(LTransactionCores$Core;I)I"⟩
abbrev b_Way_put : ByteArray := prog_5_method_3_code
def y_Way_put : MethodName := ⟨R_Way, "put", "(II)V"⟩
abbrev b_Core_branch : ByteArray := prog_3_method_4_code
def y_Core_branch : MethodName := ⟨R_Core, "branch", "(I)V"⟩
abbrev b_Core_begin : ByteArray := prog_3_method_5_code
def y_Core_begin : MethodName := ⟨R_Core, "begin", "(I)I"⟩
abbrev b_Core_fault : ByteArray := prog_3_method_8_code
def y_Core_fault : MethodName := ⟨R_Core, "fault", "(I)I"⟩
abbrev b_Core_end : ByteArray := prog_3_method_6_code
def y_Core_end : MethodName := ⟨R_Core, "end", "()I"⟩
abbrev b_Core_giveUp : ByteArray := prog_3_method_7_code
def y_Core_giveUp : MethodName := ⟨R_Core, "giveUp", "(I)I"⟩
abbrev b_Law_run : ByteArray := method_5_code
def y_Law_run : MethodName := ⟨R_Law, "run", "(LTransactionCores;II[J)I"⟩
abbrev b_TC_run : ByteArray := prog_1_method_6_code
def y_TC_run : MethodName := ⟨R_TC, "run", "(II)I"⟩
abbrev b_Law_jump : ByteArray := method_6_code
def y_Law_jump : MethodName := ⟨R_Law, "jump", "(LTransactionCores;II)I"⟩
abbrev b_TC_jump : ByteArray := prog_1_method_7_code
def y_TC_jump : MethodName := ⟨R_TC, "jump", "(II)V"⟩
abbrev b_Law_register : ByteArray := method_7_code
def y_Law_register : MethodName := ⟨R_Law, "register", "(LTransactionCores;II[J)I"⟩
abbrev b_TC_register : ByteArray := prog_1_method_8_code
def y_TC_register : MethodName := ⟨R_TC, "register", "(II)I"⟩
abbrev b_Law_fate : ByteArray := method_8_code
def y_Law_fate : MethodName := ⟨R_Law, "fate", "(LTransactionCores;II[J)I"⟩
abbrev b_TC_fate : ByteArray := prog_1_method_9_code
def y_TC_fate : MethodName := ⟨R_TC, "fate", "(II)I"⟩
abbrev b_Law_way : ByteArray := method_9_code
def y_Law_way : MethodName := ⟨R_Law, "way", "(LTransactionCores;IIII[J)I"⟩
abbrev b_TC_way : ByteArray := prog_1_method_10_code
def y_TC_way : MethodName := ⟨R_TC, "way", "(IIII)I"⟩
abbrev b_Way_tell : ByteArray := prog_5_method_4_code
def y_Way_tell : MethodName := ⟨R_Way, "tell", "(I)I"⟩
abbrev b_Model_init : ByteArray := prog_7_method_1_code
def y_Model_init : MethodName := ⟨R_Model, "<init>", "(III)V"⟩
abbrev b_Model_thrown : ByteArray := prog_7_method_2_code
def y_Model_thrown : MethodName := ⟨R_Model, "thrown", "()I"⟩
abbrev b_Model_code : ByteArray := prog_7_method_12_code
def y_Model_code : MethodName := ⟨R_Model, "code", "(III)V"⟩
abbrev b_Model_isCore : ByteArray := prog_7_method_4_code
def y_Model_isCore : MethodName := ⟨R_Model, "isCore", "(I)Z"⟩
abbrev b_Model_poke : ByteArray := prog_7_method_13_code
def y_Model_poke : MethodName := ⟨R_Model, "poke", "(II)V"⟩
abbrev b_Model_meet : ByteArray := prog_7_method_10_code
def y_Model_meet : MethodName := ⟨R_Model, "meet", "(IIZ)V"⟩
abbrev b_Model_find : ByteArray := prog_7_method_6_code
def y_Model_find : MethodName := ⟨R_Model, "find", "(II)I"⟩
abbrev b_Model_place : ByteArray := prog_7_method_5_code
def y_Model_place : MethodName := ⟨R_Model, "place", "(III)I"⟩
abbrev b_Model_abort : ByteArray := prog_7_method_9_code
def y_Model_abort : MethodName := ⟨R_Model, "abort", "(III)V"⟩
abbrev b_Model_toMemory : ByteArray := prog_7_method_8_code
def y_Model_toMemory : MethodName := ⟨R_Model, "toMemory", "(I)V"⟩
abbrev b_Model_peek : ByteArray := prog_7_method_14_code
def y_Model_peek : MethodName := ⟨R_Model, "peek", "(I)I"⟩
abbrev b_Model_step : ByteArray := prog_7_method_19_code
def y_Model_step : MethodName := ⟨R_Model, "step", "(I)I"⟩
abbrev b_Model_stepped : ByteArray := prog_7_method_16_code
def y_Model_stepped : MethodName := ⟨R_Model, "stepped", "(I)I"⟩
abbrev b_Model_moved : ByteArray := prog_7_method_17_code
def y_Model_moved : MethodName := ⟨R_Model, "moved", "(IIIZ)I"⟩
abbrev b_Model_access : ByteArray := prog_7_method_11_code
def y_Model_access : MethodName := ⟨R_Model, "access", "(IIZ)I"⟩
abbrev b_Model_room : ByteArray := prog_7_method_7_code
def y_Model_room : MethodName := ⟨R_Model, "room", "(II)I"⟩
abbrev b_Model_ruled : ByteArray := prog_7_method_18_code
def y_Model_ruled : MethodName := ⟨R_Model, "ruled", "(III)I"⟩
abbrev b_Model_fault : ByteArray := prog_7_method_15_code
def y_Model_fault : MethodName := ⟨R_Model, "fault", "(I)I"⟩
abbrev b_Model_run : ByteArray := prog_7_method_20_code
def y_Model_run : MethodName := ⟨R_Model, "run", "(II)I"⟩
abbrev b_Model_jump : ByteArray := prog_7_method_21_code
def y_Model_jump : MethodName := ⟨R_Model, "jump", "(II)V"⟩
abbrev b_Model_register : ByteArray := prog_7_method_22_code
def y_Model_register : MethodName := ⟨R_Model, "register", "(II)I"⟩
abbrev b_Model_fail : ByteArray := prog_7_method_3_code
def y_Model_fail : MethodName := ⟨R_Model, "fail", "(I)I"⟩
abbrev b_Model_fate : ByteArray := prog_7_method_23_code
def y_Model_fate : MethodName := ⟨R_Model, "fate", "(II)I"⟩
abbrev b_Model_way : ByteArray := prog_7_method_24_code
def y_Model_way : MethodName := ⟨R_Model, "way", "(IIII)I"⟩
abbrev b_Model_memory : ByteArray := prog_7_method_25_code
def y_Model_memory : MethodName := ⟨R_Model, "memory", "(I)I"⟩
abbrev b_Model_requests : ByteArray := prog_7_method_26_code
def y_Model_requests : MethodName := ⟨R_Model, "requests", "()I"⟩
abbrev b_Law_law : ByteArray := code
def y_Law_law : MethodName := ⟨R_Law, "law", "([I)Z"⟩
theorem mi_Law : Cond.initialized R_Law ∈ WS := WS_t 0 (by decide +kernel) (by decide +kernel)
theorem mi_TC : Cond.initialized R_TC ∈ WS := WS_t 1 (by decide +kernel) (by decide +kernel)
theorem mi_Math : Cond.initialized "java/lang/Math" ∈ WS := WS_t 2 (by decide +kernel) (by decide +kernel)
theorem mi_Store : Cond.initialized R_Store ∈ WS := WS_t 3 (by decide +kernel) (by decide +kernel)
theorem mi_Core : Cond.initialized R_Core ∈ WS := WS_t 4 (by decide +kernel) (by decide +kernel)
theorem mi_Cache : Cond.initialized R_Cache ∈ WS := WS_t 5 (by decide +kernel) (by decide +kernel)
theorem mi_Way : Cond.initialized R_Way ∈ WS := WS_t 6 (by decide +kernel) (by decide +kernel)
theorem mi_Model : Cond.initialized R_Model ∈ WS := WS_t 7 (by decide +kernel) (by decide +kernel)
theorem mi_Throwable : Cond.initialized "java/lang/Throwable" ∈ WS := WS_t 8 (by decide +kernel) (by decide +kernel)
theorem mi_Exception : Cond.initialized "java/lang/Exception" ∈ WS := WS_t 9 (by decide +kernel) (by decide +kernel)
theorem mi_RuntimeException : Cond.initialized "java/lang/RuntimeException" ∈ WS := WS_t 10 (by decide +kernel) (by decide +kernel)
theorem mi_IndexOutOfBoundsException : Cond.initialized "java/lang/IndexOutOfBoundsException" ∈ WS := WS_t 11 (by decide +kernel) (by decide +kernel)
theorem mi_System : Cond.initialized "java/lang/System" ∈ WS := WS_t 12 (by decide +kernel) (by decide +kernel)
theorem mi_IllegalArgumentException : Cond.initialized "java/lang/IllegalArgumentException" ∈ WS := WS_t 13 (by decide +kernel) (by decide +kernel)
theorem mi_IllegalStateException : Cond.initialized "java/lang/IllegalStateException" ∈ WS := WS_t 14 (by decide +kernel) (by decide +kernel)
theorem m_Law_8 : Cond.classLink R_Law 8 "TransactionCores" ∈ WS := WS_t 15 (by decide +kernel) (by decide +kernel)
theorem mt_TC : Cond.instantiable R_TC 4 ∈ WS := WS_t 16 (by decide +kernel) (by decide +kernel)
theorem m_Law_47 : Cond.methodLink R_Law 47 y_TC_init ∈ WS := WS_t 17 (by decide +kernel) (by decide +kernel)
theorem ms_TC_init : Cond.instanceMethod y_TC_init ∈ WS := WS_t 18 (by decide +kernel) (by decide +kernel)
theorem mc_TC_init : Cond.code y_TC_init b_TC_init 6 none ∈ WS := WS_t 19 (by decide +kernel) (by decide +kernel)
theorem m_TC_1 : Cond.methodLink R_TC 1 ⟨"java/lang/Object", "<init>", "()V"⟩ ∈ WS := WS_t 20 (by decide +kernel) (by decide +kernel)
theorem m_TC_7 : Cond.methodLink R_TC 7 y_TC_oneToThree ∈ WS := WS_t 23 (by decide +kernel) (by decide +kernel)
theorem ms_TC_oneToThree : Cond.static y_TC_oneToThree ∈ WS := WS_t 24 (by decide +kernel) (by decide +kernel)
theorem mc_TC_oneToThree : Cond.code y_TC_oneToThree b_TC_oneToThree 1 (some .int) ∈ WS := WS_t 25 (by decide +kernel) (by decide +kernel)
theorem m_TC_131 : Cond.methodLink R_TC 131 ⟨"java/lang/Math", "min", "(II)I"⟩ ∈ WS := WS_t 26 (by decide +kernel) (by decide +kernel)
theorem m_TC_137 : Cond.methodLink R_TC 137 ⟨"java/lang/Math", "max", "(II)I"⟩ ∈ WS := WS_t 29 (by decide +kernel) (by decide +kernel)
theorem m_TC_13 : Cond.classLink R_TC 13 "TransactionCores$Store" ∈ WS := WS_t 32 (by decide +kernel) (by decide +kernel)
theorem mt_Store : Cond.instantiable R_Store 1 ∈ WS := WS_t 33 (by decide +kernel) (by decide +kernel)
theorem n_TC_15 : Cond.methodLinkNest R_TC 15 y_Store_init "TransactionCores" ∈ NW := NW_t 34 (by decide +kernel) rfl
theorem ms_Store_init : Cond.instanceMethod y_Store_init ∈ WS := WS_t 35 (by decide +kernel) (by decide +kernel)
theorem mc_Store_init : Cond.code y_Store_init b_Store_init 1 none ∈ WS := WS_t 36 (by decide +kernel) (by decide +kernel)
theorem m_Store_3 : Cond.methodLink R_Store 3 ⟨"java/lang/Object", "<init>", "()V"⟩ ∈ WS := WS_t 37 (by decide +kernel) (by decide +kernel)
theorem m_Store_9 : Cond.fieldLink R_Store 9 "TransactionCores$Store" "words" "[I" ∈ WS := WS_t 38 (by decide +kernel) (by decide +kernel)
theorem m_ac_int : Cond.arrayClass .int ∈ WS := WS_t 42 (by decide +kernel) (by decide +kernel)
theorem m_TC_20 : Cond.classLink R_TC 20 "TransactionCores$Core" ∈ WS := WS_t 43 (by decide +kernel) (by decide +kernel)
theorem n_ao_Core : Cond.arrayOver (.object R_Core) ∈ NW := NW_t 44 (by decide +kernel) rfl
theorem mt_Core : Cond.instantiable R_Core 10 ∈ WS := WS_t 45 (by decide +kernel) (by decide +kernel)
theorem m_TC_26 : Cond.classLink R_TC 26 "TransactionCores$Cache" ∈ WS := WS_t 46 (by decide +kernel) (by decide +kernel)
theorem mt_Cache : Cond.instantiable R_Cache 3 ∈ WS := WS_t 47 (by decide +kernel) (by decide +kernel)
theorem m_TC_28 : Cond.methodLink R_TC 28 y_TC_nearestSets ∈ WS := WS_t 48 (by decide +kernel) (by decide +kernel)
theorem ms_TC_nearestSets : Cond.static y_TC_nearestSets ∈ WS := WS_t 49 (by decide +kernel) (by decide +kernel)
theorem mc_TC_nearestSets : Cond.code y_TC_nearestSets b_TC_nearestSets 1 (some .int) ∈ WS := WS_t 50 (by decide +kernel) (by decide +kernel)
theorem m_TC_31 : Cond.methodLink R_TC 31 y_Cache_init ∈ WS := WS_t 51 (by decide +kernel) (by decide +kernel)
theorem ms_Cache_init : Cond.instanceMethod y_Cache_init ∈ WS := WS_t 52 (by decide +kernel) (by decide +kernel)
theorem mc_Cache_init : Cond.code y_Cache_init b_Cache_init 4 none ∈ WS := WS_t 53 (by decide +kernel) (by decide +kernel)
theorem m_Cache_3 : Cond.methodLink R_Cache 3 ⟨"java/lang/Object", "<init>", "()V"⟩ ∈ WS := WS_t 54 (by decide +kernel) (by decide +kernel)
theorem m_Cache_18 : Cond.classLink R_Cache 18 "TransactionCores$Way" ∈ WS := WS_t 55 (by decide +kernel) (by decide +kernel)
theorem n_ao_Way : Cond.arrayOver (.object R_Way) ∈ NW := NW_t 56 (by decide +kernel) rfl
theorem mt_Way : Cond.instantiable R_Way 6 ∈ WS := WS_t 57 (by decide +kernel) (by decide +kernel)
theorem n_Cache_24 : Cond.methodLinkNest R_Cache 24 y_Way_init "TransactionCores" ∈ NW := NW_t 58 (by decide +kernel) rfl
theorem ms_Way_init : Cond.instanceMethod y_Way_init ∈ WS := WS_t 59 (by decide +kernel) (by decide +kernel)
theorem mc_Way_init : Cond.code y_Way_init b_Way_init 1 none ∈ WS := WS_t 60 (by decide +kernel) (by decide +kernel)
theorem m_Way_1 : Cond.methodLink R_Way 1 ⟨"java/lang/Object", "<init>", "()V"⟩ ∈ WS := WS_t 61 (by decide +kernel) (by decide +kernel)
theorem n_Cache_29 : Cond.fieldLinkNest R_Cache 29 "TransactionCores$Way" "state" "I" "TransactionCores" ∈ NW := NW_t 62 (by decide +kernel) rfl
theorem n_TC_62 : Cond.fieldLinkNest R_TC 62 "TransactionCores$Way" "state" "I" "TransactionCores" ∈ NW := NW_t 63 (by decide +kernel) rfl
theorem n_Cache_32 : Cond.fieldLinkNest R_Cache 32 "TransactionCores$Way" "line" "I" "TransactionCores" ∈ NW := NW_t 64 (by decide +kernel) rfl
theorem n_Store_15 : Cond.fieldLinkNest R_Store 15 "TransactionCores$Way" "line" "I" "TransactionCores" ∈ NW := NW_t 65 (by decide +kernel) rfl
theorem m_Way_16 : Cond.fieldLink R_Way 16 "TransactionCores$Way" "line" "I" ∈ WS := WS_t 66 (by decide +kernel) (by decide +kernel)
theorem n_Cache_35 : Cond.fieldLinkNest R_Cache 35 "TransactionCores$Way" "marks" "I" "TransactionCores" ∈ NW := NW_t 67 (by decide +kernel) rfl
theorem m_Way_19 : Cond.fieldLink R_Way 19 "TransactionCores$Way" "marks" "I" ∈ WS := WS_t 68 (by decide +kernel) (by decide +kernel)
theorem n_TC_68 : Cond.fieldLinkNest R_TC 68 "TransactionCores$Way" "marks" "I" "TransactionCores" ∈ NW := NW_t 69 (by decide +kernel) rfl
theorem m_Way_7 : Cond.fieldLink R_Way 7 "TransactionCores$Way" "evenWord" "I" ∈ WS := WS_t 70 (by decide +kernel) (by decide +kernel)
theorem n_Store_21 : Cond.fieldLinkNest R_Store 21 "TransactionCores$Way" "evenWord" "I" "TransactionCores" ∈ NW := NW_t 71 (by decide +kernel) rfl
theorem m_Way_13 : Cond.fieldLink R_Way 13 "TransactionCores$Way" "oddWord" "I" ∈ WS := WS_t 72 (by decide +kernel) (by decide +kernel)
theorem n_Store_28 : Cond.fieldLinkNest R_Store 28 "TransactionCores$Way" "oddWord" "I" "TransactionCores" ∈ NW := NW_t 73 (by decide +kernel) rfl
theorem n_Cache_38 : Cond.fieldLinkNest R_Cache 38 "TransactionCores$Way" "latestUse" "I" "TransactionCores" ∈ NW := NW_t 74 (by decide +kernel) rfl
theorem n_TC_204 : Cond.fieldLinkNest R_TC 204 "TransactionCores$Way" "latestUse" "I" "TransactionCores" ∈ NW := NW_t 75 (by decide +kernel) rfl
theorem m_Cache_9 : Cond.fieldLink R_Cache 9 "TransactionCores$Cache" "sets" "I" ∈ WS := WS_t 89 (by decide +kernel) (by decide +kernel)
theorem n_TC_110 : Cond.fieldLinkNest R_TC 110 "TransactionCores$Cache" "sets" "I" "TransactionCores" ∈ NW := NW_t 90 (by decide +kernel) rfl
theorem m_Cache_15 : Cond.fieldLink R_Cache 15 "TransactionCores$Cache" "waysOfSet" "I" ∈ WS := WS_t 91 (by decide +kernel) (by decide +kernel)
theorem n_TC_113 : Cond.fieldLinkNest R_TC 113 "TransactionCores$Cache" "waysOfSet" "I" "TransactionCores" ∈ NW := NW_t 92 (by decide +kernel) rfl
theorem m_Cache_20 : Cond.fieldLink R_Cache 20 "TransactionCores$Cache" "ways" "[LTransactionCores$Way;" ∈ WS := WS_t 93 (by decide +kernel) (by decide +kernel)
theorem n_TC_116 : Cond.fieldLinkNest R_TC 116 "TransactionCores$Cache" "ways" "[LTransactionCores$Way;" "TransactionCores" ∈ NW := NW_t 94 (by decide +kernel) rfl
theorem m_TC_34 : Cond.methodLink R_TC 34 y_Core_init ∈ WS := WS_t 102 (by decide +kernel) (by decide +kernel)
theorem ms_Core_init : Cond.instanceMethod y_Core_init ∈ WS := WS_t 103 (by decide +kernel) (by decide +kernel)
theorem mc_Core_init : Cond.code y_Core_init b_Core_init 3 none ∈ WS := WS_t 104 (by decide +kernel) (by decide +kernel)
theorem m_Core_3 : Cond.methodLink R_Core 3 ⟨"java/lang/Object", "<init>", "()V"⟩ ∈ WS := WS_t 105 (by decide +kernel) (by decide +kernel)
theorem m_Core_24 : Cond.fieldLink R_Core 24 "TransactionCores$Core" "number" "I" ∈ WS := WS_t 106 (by decide +kernel) (by decide +kernel)
theorem n_TC_190 : Cond.fieldLinkNest R_TC 190 "TransactionCores$Core" "number" "I" "TransactionCores" ∈ NW := NW_t 107 (by decide +kernel) rfl
theorem m_Core_28 : Cond.fieldLink R_Core 28 "TransactionCores$Core" "cache" "LTransactionCores$Cache;" ∈ WS := WS_t 108 (by decide +kernel) (by decide +kernel)
theorem n_TC_54 : Cond.fieldLinkNest R_TC 54 "TransactionCores$Core" "cache" "LTransactionCores$Cache;" "TransactionCores" ∈ NW := NW_t 109 (by decide +kernel) rfl
theorem m_Core_9 : Cond.fieldLink R_Core 9 "TransactionCores$Core" "program" "[I" ∈ WS := WS_t 110 (by decide +kernel) (by decide +kernel)
theorem n_TC_40 : Cond.fieldLinkNest R_TC 40 "TransactionCores$Core" "program" "[I" "TransactionCores" ∈ NW := NW_t 111 (by decide +kernel) rfl
theorem m_Core_15 : Cond.fieldLink R_Core 15 "TransactionCores$Core" "registers" "[I" ∈ WS := WS_t 112 (by decide +kernel) (by decide +kernel)
theorem n_TC_104 : Cond.fieldLinkNest R_TC 104 "TransactionCores$Core" "registers" "[I" "TransactionCores" ∈ NW := NW_t 113 (by decide +kernel) rfl
theorem m_Core_18 : Cond.fieldLink R_Core 18 "TransactionCores$Core" "noted" "[I" ∈ WS := WS_t 114 (by decide +kernel) (by decide +kernel)
theorem m_Core_21 : Cond.fieldLink R_Core 21 "TransactionCores$Core" "fates" "[I" ∈ WS := WS_t 115 (by decide +kernel) (by decide +kernel)
theorem n_TC_107 : Cond.fieldLinkNest R_TC 107 "TransactionCores$Core" "fates" "[I" "TransactionCores" ∈ NW := NW_t 116 (by decide +kernel) rfl
theorem m_Core_51 : Cond.fieldLink R_Core 51 "TransactionCores$Core" "pc" "I" ∈ WS := WS_t 117 (by decide +kernel) (by decide +kernel)
theorem n_TC_97 : Cond.fieldLinkNest R_TC 97 "TransactionCores$Core" "pc" "I" "TransactionCores" ∈ NW := NW_t 118 (by decide +kernel) rfl
theorem m_Core_67 : Cond.fieldLink R_Core 67 "TransactionCores$Core" "fallback" "I" ∈ WS := WS_t 119 (by decide +kernel) (by decide +kernel)
theorem m_Core_48 : Cond.fieldLink R_Core 48 "TransactionCores$Core" "depth" "I" ∈ WS := WS_t 120 (by decide +kernel) (by decide +kernel)
theorem n_TC_86 : Cond.fieldLinkNest R_TC 86 "TransactionCores$Core" "depth" "I" "TransactionCores" ∈ NW := NW_t 121 (by decide +kernel) rfl
theorem n_TC_100 : Cond.fieldLinkNest R_TC 100 "TransactionCores$Core" "stopped" "Z" "TransactionCores" ∈ NW := NW_t 122 (by decide +kernel) rfl
theorem m_Core_75 : Cond.fieldLink R_Core 75 "TransactionCores$Core" "stopped" "Z" ∈ WS := WS_t 123 (by decide +kernel) (by decide +kernel)
theorem m_TC_16 : Cond.fieldLink R_TC 16 "TransactionCores" "store" "LTransactionCores$Store;" ∈ WS := WS_t 145 (by decide +kernel) (by decide +kernel)
theorem m_TC_22 : Cond.fieldLink R_TC 22 "TransactionCores" "cores" "[LTransactionCores$Core;" ∈ WS := WS_t 146 (by decide +kernel) (by decide +kernel)
theorem m_TC_123 : Cond.fieldLink R_TC 123 "TransactionCores" "requestCount" "I" ∈ WS := WS_t 147 (by decide +kernel) (by decide +kernel)
theorem m_TC_201 : Cond.fieldLink R_TC 201 "TransactionCores" "accessCount" "I" ∈ WS := WS_t 148 (by decide +kernel) (by decide +kernel)
theorem m_Law_60 : Cond.methodLink R_Law 60 y_TC_poke ∈ WS := WS_t 158 (by decide +kernel) (by decide +kernel)
theorem ms_TC_poke : Cond.instanceMethod y_TC_poke ∈ WS := WS_t 159 (by decide +kernel) (by decide +kernel)
theorem mv_TC_poke : Cond.selects R_TC y_TC_poke y_TC_poke ∈ WS := WS_t 160 (by decide +kernel) (by decide +kernel)
theorem mc_TC_poke : Cond.code y_TC_poke b_TC_poke 3 none ∈ WS := WS_t 161 (by decide +kernel) (by decide +kernel)
theorem m_TC_44 : Cond.methodLink R_TC 44 y_TC_lineOf ∈ WS := WS_t 162 (by decide +kernel) (by decide +kernel)
theorem ms_TC_lineOf : Cond.static y_TC_lineOf ∈ WS := WS_t 163 (by decide +kernel) (by decide +kernel)
theorem mc_TC_lineOf : Cond.code y_TC_lineOf b_TC_lineOf 1 (some .int) ∈ WS := WS_t 164 (by decide +kernel) (by decide +kernel)
theorem m_TC_47 : Cond.methodLink R_TC 47 y_TC_sendRequest ∈ WS := WS_t 165 (by decide +kernel) (by decide +kernel)
theorem ms_TC_sendRequest : Cond.instanceMethod y_TC_sendRequest ∈ WS := WS_t 167 (by decide +kernel) (by decide +kernel)
theorem mc_TC_sendRequest : Cond.code y_TC_sendRequest b_TC_sendRequest 6 none ∈ WS := WS_t 168 (by decide +kernel) (by decide +kernel)
theorem m_TC_58 : Cond.methodLink R_TC 58 y_Cache_find ∈ WS := WS_t 169 (by decide +kernel) (by decide +kernel)
theorem ms_Cache_find : Cond.instanceMethod y_Cache_find ∈ WS := WS_t 170 (by decide +kernel) (by decide +kernel)
theorem mv_Cache_find : Cond.selects R_Cache y_Cache_find y_Cache_find ∈ WS := WS_t 171 (by decide +kernel) (by decide +kernel)
theorem mc_Cache_find : Cond.code y_Cache_find b_Cache_find 4 (some (.object "TransactionCores$Way")) ∈ WS := WS_t 172 (by decide +kernel) (by decide +kernel)
theorem m_Cache_25 : Cond.methodLink R_Cache 25 y_Cache_firstOfSet ∈ WS := WS_t 173 (by decide +kernel) (by decide +kernel)
theorem ms_Cache_firstOfSet : Cond.instanceMethod y_Cache_firstOfSet ∈ WS := WS_t 175 (by decide +kernel) (by decide +kernel)
theorem mc_Cache_firstOfSet : Cond.code y_Cache_firstOfSet b_Cache_firstOfSet 2 (some .int) ∈ WS := WS_t 176 (by decide +kernel) (by decide +kernel)
theorem m_TC_214 : Cond.methodLink R_TC 214 y_TC_meetRequest ∈ WS := WS_t 177 (by decide +kernel) (by decide +kernel)
theorem ms_TC_meetRequest : Cond.instanceMethod y_TC_meetRequest ∈ WS := WS_t 179 (by decide +kernel) (by decide +kernel)
theorem mc_TC_meetRequest : Cond.code y_TC_meetRequest b_TC_meetRequest 4 none ∈ WS := WS_t 180 (by decide +kernel) (by decide +kernel)
theorem m_TC_187 : Cond.methodLink R_TC 187 y_Core_abort ∈ WS := WS_t 181 (by decide +kernel) (by decide +kernel)
theorem ms_Core_abort : Cond.instanceMethod y_Core_abort ∈ WS := WS_t 182 (by decide +kernel) (by decide +kernel)
theorem mv_Core_abort : Cond.selects R_Core y_Core_abort y_Core_abort ∈ WS := WS_t 183 (by decide +kernel) (by decide +kernel)
theorem mc_Core_abort : Cond.code y_Core_abort b_Core_abort 3 (some .int) ∈ WS := WS_t 184 (by decide +kernel) (by decide +kernel)
theorem m_Core_79 : Cond.methodLink R_Core 79 y_Cache_dropWritten ∈ WS := WS_t 185 (by decide +kernel) (by decide +kernel)
theorem ms_Cache_dropWritten : Cond.instanceMethod y_Cache_dropWritten ∈ WS := WS_t 186 (by decide +kernel) (by decide +kernel)
theorem mv_Cache_dropWritten : Cond.selects R_Cache y_Cache_dropWritten y_Cache_dropWritten ∈ WS := WS_t 187 (by decide +kernel) (by decide +kernel)
theorem mc_Cache_dropWritten : Cond.code y_Cache_dropWritten b_Cache_dropWritten 2 none ∈ WS := WS_t 188 (by decide +kernel) (by decide +kernel)
theorem m_Core_70 : Cond.methodLink R_Core 70 y_Cache_dropMarks ∈ WS := WS_t 189 (by decide +kernel) (by decide +kernel)
theorem ms_Cache_dropMarks : Cond.instanceMethod y_Cache_dropMarks ∈ WS := WS_t 190 (by decide +kernel) (by decide +kernel)
theorem mv_Cache_dropMarks : Cond.selects R_Cache y_Cache_dropMarks y_Cache_dropMarks ∈ WS := WS_t 191 (by decide +kernel) (by decide +kernel)
theorem mc_Cache_dropMarks : Cond.code y_Cache_dropMarks b_Cache_dropMarks 2 none ∈ WS := WS_t 192 (by decide +kernel) (by decide +kernel)
theorem m_Core_61 : Cond.methodLink R_Core 61 ⟨"java/lang/System", "arraycopy", "(Ljava/lang/Object;ILjava/lang/Object;II)V"⟩ ∈ WS := WS_t 193 (by decide +kernel) (by decide +kernel)
theorem m_TC_207 : Cond.methodLink R_TC 207 y_Store_keep ∈ WS := WS_t 196 (by decide +kernel) (by decide +kernel)
theorem ms_Store_keep : Cond.instanceMethod y_Store_keep ∈ WS := WS_t 197 (by decide +kernel) (by decide +kernel)
theorem mv_Store_keep : Cond.selects R_Store y_Store_keep y_Store_keep ∈ WS := WS_t 198 (by decide +kernel) (by decide +kernel)
theorem mc_Store_keep : Cond.code y_Store_keep b_Store_keep 2 none ∈ WS := WS_t 199 (by decide +kernel) (by decide +kernel)
theorem m_Store_24 : Cond.methodLink R_Store 24 y_Store_put ∈ WS := WS_t 200 (by decide +kernel) (by decide +kernel)
theorem ms_Store_put : Cond.instanceMethod y_Store_put ∈ WS := WS_t 201 (by decide +kernel) (by decide +kernel)
theorem mv_Store_put : Cond.selects R_Store y_Store_put y_Store_put ∈ WS := WS_t 202 (by decide +kernel) (by decide +kernel)
theorem mc_Store_put : Cond.code y_Store_put b_Store_put 3 none ∈ WS := WS_t 203 (by decide +kernel) (by decide +kernel)
theorem m_TC_51 : Cond.methodLink R_TC 51 y_Store_put ∈ WS := WS_t 204 (by decide +kernel) (by decide +kernel)
theorem m_Law_64 : Cond.methodLink R_Law 64 y_TC_peek ∈ WS := WS_t 205 (by decide +kernel) (by decide +kernel)
theorem ms_TC_peek : Cond.instanceMethod y_TC_peek ∈ WS := WS_t 206 (by decide +kernel) (by decide +kernel)
theorem mv_TC_peek : Cond.selects R_TC y_TC_peek y_TC_peek ∈ WS := WS_t 207 (by decide +kernel) (by decide +kernel)
theorem mc_TC_peek : Cond.code y_TC_peek b_TC_peek 5 (some .int) ∈ WS := WS_t 208 (by decide +kernel) (by decide +kernel)
theorem m_TC_71 : Cond.methodLink R_TC 71 y_Way_get ∈ WS := WS_t 209 (by decide +kernel) (by decide +kernel)
theorem ms_Way_get : Cond.instanceMethod y_Way_get ∈ WS := WS_t 210 (by decide +kernel) (by decide +kernel)
theorem mv_Way_get : Cond.selects R_Way y_Way_get y_Way_get ∈ WS := WS_t 211 (by decide +kernel) (by decide +kernel)
theorem mc_Way_get : Cond.code y_Way_get b_Way_get 2 (some .int) ∈ WS := WS_t 212 (by decide +kernel) (by decide +kernel)
theorem m_TC_74 : Cond.methodLink R_TC 74 y_Store_get ∈ WS := WS_t 213 (by decide +kernel) (by decide +kernel)
theorem ms_Store_get : Cond.instanceMethod y_Store_get ∈ WS := WS_t 214 (by decide +kernel) (by decide +kernel)
theorem mv_Store_get : Cond.selects R_Store y_Store_get y_Store_get ∈ WS := WS_t 215 (by decide +kernel) (by decide +kernel)
theorem mc_Store_get : Cond.code y_Store_get b_Store_get 2 (some .int) ∈ WS := WS_t 216 (by decide +kernel) (by decide +kernel)
theorem m_Law_90 : Cond.methodLink R_Law 90 y_TC_memory ∈ WS := WS_t 217 (by decide +kernel) (by decide +kernel)
theorem ms_TC_memory : Cond.instanceMethod y_TC_memory ∈ WS := WS_t 218 (by decide +kernel) (by decide +kernel)
theorem mv_TC_memory : Cond.selects R_TC y_TC_memory y_TC_memory ∈ WS := WS_t 219 (by decide +kernel) (by decide +kernel)
theorem mc_TC_memory : Cond.code y_TC_memory b_TC_memory 2 (some .int) ∈ WS := WS_t 220 (by decide +kernel) (by decide +kernel)
theorem m_Law_94 : Cond.methodLink R_Law 94 y_TC_requests ∈ WS := WS_t 221 (by decide +kernel) (by decide +kernel)
theorem ms_TC_requests : Cond.instanceMethod y_TC_requests ∈ WS := WS_t 222 (by decide +kernel) (by decide +kernel)
theorem mv_TC_requests : Cond.selects R_TC y_TC_requests y_TC_requests ∈ WS := WS_t 223 (by decide +kernel) (by decide +kernel)
theorem mc_TC_requests : Cond.code y_TC_requests b_TC_requests 1 (some .int) ∈ WS := WS_t 224 (by decide +kernel) (by decide +kernel)
theorem m_Law_41 : Cond.methodLink R_Law 41 y_Law_cell ∈ WS := WS_t 225 (by decide +kernel) (by decide +kernel)
theorem ms_Law_cell : Cond.static y_Law_cell ∈ WS := WS_t 226 (by decide +kernel) (by decide +kernel)
theorem mc_Law_cell : Cond.code y_Law_cell b_Law_cell 2 (some .int) ∈ WS := WS_t 227 (by decide +kernel) (by decide +kernel)
theorem m_Law_52 : Cond.methodLink R_Law 52 y_Law_code ∈ WS := WS_t 228 (by decide +kernel) (by decide +kernel)
theorem ms_Law_code : Cond.static y_Law_code ∈ WS := WS_t 229 (by decide +kernel) (by decide +kernel)
theorem m_Law_13 : Cond.classLink R_Law 13 "java/lang/IndexOutOfBoundsException" ∈ WS := WS_t 231 (by decide +kernel) (by decide +kernel)
theorem m_Law_7 : Cond.methodLink R_Law 7 y_TC_code ∈ WS := WS_t 232 (by decide +kernel) (by decide +kernel)
theorem ms_TC_code : Cond.instanceMethod y_TC_code ∈ WS := WS_t 233 (by decide +kernel) (by decide +kernel)
theorem mv_TC_code : Cond.selects R_TC y_TC_code y_TC_code ∈ WS := WS_t 234 (by decide +kernel) (by decide +kernel)
theorem mc_TC_code : Cond.code y_TC_code b_TC_code 4 none ∈ WS := WS_t 235 (by decide +kernel) (by decide +kernel)
theorem m_TC_37 : Cond.methodLink R_TC 37 y_TC_checkThere ∈ WS := WS_t 236 (by decide +kernel) (by decide +kernel)
theorem ms_TC_checkThere : Cond.static y_TC_checkThere ∈ WS := WS_t 237 (by decide +kernel) (by decide +kernel)
theorem mc_TC_checkThere : Cond.code y_TC_checkThere b_TC_checkThere 2 none ∈ WS := WS_t 238 (by decide +kernel) (by decide +kernel)
theorem m_TC_126 : Cond.classLink R_TC 126 "java/lang/IndexOutOfBoundsException" ∈ WS := WS_t 239 (by decide +kernel) (by decide +kernel)
theorem m_TC_130 : Cond.methodLink R_TC 130 ⟨"java/lang/IndexOutOfBoundsException", "<init>", "(Ljava/lang/String;)V"⟩ ∈ WS := WS_t 281 (by decide +kernel) (by decide +kernel)
theorem m_ac_byte : Cond.arrayClass .byte ∈ WS := WS_t 306 (by decide +kernel) (by decide +kernel)
theorem m_Law_68 : Cond.methodLink R_Law 68 y_Law_step ∈ WS := WS_t 307 (by decide +kernel) (by decide +kernel)
theorem ms_Law_step : Cond.static y_Law_step ∈ WS := WS_t 308 (by decide +kernel) (by decide +kernel)
theorem m_Law_15 : Cond.methodLink R_Law 15 y_TC_step ∈ WS := WS_t 310 (by decide +kernel) (by decide +kernel)
theorem ms_TC_step : Cond.instanceMethod y_TC_step ∈ WS := WS_t 311 (by decide +kernel) (by decide +kernel)
theorem mv_TC_step : Cond.selects R_TC y_TC_step y_TC_step ∈ WS := WS_t 312 (by decide +kernel) (by decide +kernel)
theorem mc_TC_step : Cond.code y_TC_step b_TC_step 2 (some .int) ∈ WS := WS_t 313 (by decide +kernel) (by decide +kernel)
theorem m_TC_75 : Cond.methodLink R_TC 75 y_TC_takeStep ∈ WS := WS_t 314 (by decide +kernel) (by decide +kernel)
theorem ms_TC_takeStep : Cond.instanceMethod y_TC_takeStep ∈ WS := WS_t 316 (by decide +kernel) (by decide +kernel)
theorem mc_TC_takeStep : Cond.code y_TC_takeStep b_TC_takeStep 4 (some .int) ∈ WS := WS_t 317 (by decide +kernel) (by decide +kernel)
theorem m_TC_94 : Cond.methodLink R_TC 94 y_TC_place ∈ WS := WS_t 318 (by decide +kernel) (by decide +kernel)
theorem ms_TC_place : Cond.static y_TC_place ∈ WS := WS_t 319 (by decide +kernel) (by decide +kernel)
theorem mc_TC_place : Cond.code y_TC_place b_TC_place 1 (some .int) ∈ WS := WS_t 320 (by decide +kernel) (by decide +kernel)
theorem m_TC_143 : Cond.methodLink R_TC 143 y_TC_kindOf ∈ WS := WS_t 321 (by decide +kernel) (by decide +kernel)
theorem ms_TC_kindOf : Cond.static y_TC_kindOf ∈ WS := WS_t 322 (by decide +kernel) (by decide +kernel)
theorem mc_TC_kindOf : Cond.code y_TC_kindOf b_TC_kindOf 1 (some .int) ∈ WS := WS_t 323 (by decide +kernel) (by decide +kernel)
theorem m_TC_146 : Cond.methodLink R_TC 146 y_Core_reckon ∈ WS := WS_t 324 (by decide +kernel) (by decide +kernel)
theorem ms_Core_reckon : Cond.instanceMethod y_Core_reckon ∈ WS := WS_t 325 (by decide +kernel) (by decide +kernel)
theorem mv_Core_reckon : Cond.selects R_Core y_Core_reckon y_Core_reckon ∈ WS := WS_t 326 (by decide +kernel) (by decide +kernel)
theorem mc_Core_reckon : Cond.code y_Core_reckon b_Core_reckon 5 none ∈ WS := WS_t 327 (by decide +kernel) (by decide +kernel)
theorem n_Core_32 : Cond.methodLinkNest R_Core 32 y_TC_registerB "TransactionCores" ∈ NW := NW_t 328 (by decide +kernel) rfl
theorem ms_TC_registerB : Cond.static y_TC_registerB ∈ WS := WS_t 329 (by decide +kernel) (by decide +kernel)
theorem mc_TC_registerB : Cond.code y_TC_registerB b_TC_registerB 1 (some .int) ∈ WS := WS_t 330 (by decide +kernel) (by decide +kernel)
theorem n_Core_36 : Cond.methodLinkNest R_Core 36 y_TC_registerC "TransactionCores" ∈ NW := NW_t 331 (by decide +kernel) rfl
theorem ms_TC_registerC : Cond.static y_TC_registerC ∈ WS := WS_t 332 (by decide +kernel) (by decide +kernel)
theorem mc_TC_registerC : Cond.code y_TC_registerC b_TC_registerC 1 (some .int) ∈ WS := WS_t 333 (by decide +kernel) (by decide +kernel)
theorem m_TC_140 : Cond.methodLink R_TC 140 y_TC_immediateOf ∈ WS := WS_t 334 (by decide +kernel) (by decide +kernel)
theorem ms_TC_immediateOf : Cond.static y_TC_immediateOf ∈ WS := WS_t 335 (by decide +kernel) (by decide +kernel)
theorem mc_TC_immediateOf : Cond.code y_TC_immediateOf b_TC_immediateOf 1 (some .int) ∈ WS := WS_t 336 (by decide +kernel) (by decide +kernel)
theorem n_Core_39 : Cond.methodLinkNest R_Core 39 y_TC_registerA "TransactionCores" ∈ NW := NW_t 337 (by decide +kernel) rfl
theorem ms_TC_registerA : Cond.static y_TC_registerA ∈ WS := WS_t 338 (by decide +kernel) (by decide +kernel)
theorem mc_TC_registerA : Cond.code y_TC_registerA b_TC_registerA 1 (some .int) ∈ WS := WS_t 339 (by decide +kernel) (by decide +kernel)
theorem n_Core_42 : Cond.methodLinkNest R_Core 42 y_TC_kindOf "TransactionCores" ∈ NW := NW_t 340 (by decide +kernel) rfl
theorem n_Core_45 : Cond.methodLinkNest R_Core 45 y_TC_immediateOf "TransactionCores" ∈ NW := NW_t 341 (by decide +kernel) rfl
theorem m_TC_150 : Cond.methodLink R_TC 150 y_TC_load ∈ WS := WS_t 342 (by decide +kernel) (by decide +kernel)
theorem ms_TC_load : Cond.instanceMethod y_TC_load ∈ WS := WS_t 344 (by decide +kernel) (by decide +kernel)
theorem mc_TC_load : Cond.code y_TC_load b_TC_load 5 (some .int) ∈ WS := WS_t 345 (by decide +kernel) (by decide +kernel)
theorem m_TC_173 : Cond.methodLink R_TC 173 y_Core_addressOf ∈ WS := WS_t 346 (by decide +kernel) (by decide +kernel)
theorem ms_Core_addressOf : Cond.instanceMethod y_Core_addressOf ∈ WS := WS_t 347 (by decide +kernel) (by decide +kernel)
theorem mv_Core_addressOf : Cond.selects R_Core y_Core_addressOf y_Core_addressOf ∈ WS := WS_t 348 (by decide +kernel) (by decide +kernel)
theorem mc_Core_addressOf : Cond.code y_Core_addressOf b_Core_addressOf 2 (some .int) ∈ WS := WS_t 349 (by decide +kernel) (by decide +kernel)
theorem m_TC_176 : Cond.methodLink R_TC 176 y_TC_access ∈ WS := WS_t 350 (by decide +kernel) (by decide +kernel)
theorem ms_TC_access : Cond.instanceMethod y_TC_access ∈ WS := WS_t 352 (by decide +kernel) (by decide +kernel)
theorem mc_TC_access : Cond.code y_TC_access b_TC_access 6 (some (.object "TransactionCores$Way")) ∈ WS := WS_t 353 (by decide +kernel) (by decide +kernel)
theorem m_TC_184 : Cond.methodLink R_TC 184 y_Cache_room ∈ WS := WS_t 354 (by decide +kernel) (by decide +kernel)
theorem ms_Cache_room : Cond.instanceMethod y_Cache_room ∈ WS := WS_t 355 (by decide +kernel) (by decide +kernel)
theorem mv_Cache_room : Cond.selects R_Cache y_Cache_room y_Cache_room ∈ WS := WS_t 356 (by decide +kernel) (by decide +kernel)
theorem mc_Cache_room : Cond.code y_Cache_room b_Cache_room 6 (some (.object "TransactionCores$Way")) ∈ WS := WS_t 357 (by decide +kernel) (by decide +kernel)
theorem m_TC_193 : Cond.methodLink R_TC 193 y_TC_refill ∈ WS := WS_t 358 (by decide +kernel) (by decide +kernel)
theorem ms_TC_refill : Cond.instanceMethod y_TC_refill ∈ WS := WS_t 360 (by decide +kernel) (by decide +kernel)
theorem mc_TC_refill : Cond.code y_TC_refill b_TC_refill 3 none ∈ WS := WS_t 361 (by decide +kernel) (by decide +kernel)
theorem m_TC_211 : Cond.methodLink R_TC 211 y_Store_fill ∈ WS := WS_t 362 (by decide +kernel) (by decide +kernel)
theorem ms_Store_fill : Cond.instanceMethod y_Store_fill ∈ WS := WS_t 363 (by decide +kernel) (by decide +kernel)
theorem mv_Store_fill : Cond.selects R_Store y_Store_fill y_Store_fill ∈ WS := WS_t 364 (by decide +kernel) (by decide +kernel)
theorem mc_Store_fill : Cond.code y_Store_fill b_Store_fill 3 none ∈ WS := WS_t 365 (by decide +kernel) (by decide +kernel)
theorem m_Store_31 : Cond.methodLink R_Store 31 y_Store_get ∈ WS := WS_t 366 (by decide +kernel) (by decide +kernel)
theorem m_TC_197 : Cond.methodLink R_TC 197 y_TC_makeModified ∈ WS := WS_t 367 (by decide +kernel) (by decide +kernel)
theorem ms_TC_makeModified : Cond.instanceMethod y_TC_makeModified ∈ WS := WS_t 369 (by decide +kernel) (by decide +kernel)
theorem mc_TC_makeModified : Cond.code y_TC_makeModified b_TC_makeModified 3 none ∈ WS := WS_t 370 (by decide +kernel) (by decide +kernel)
theorem m_TC_180 : Cond.methodLink R_TC 180 y_TC_registerA ∈ WS := WS_t 371 (by decide +kernel) (by decide +kernel)
theorem m_TC_154 : Cond.methodLink R_TC 154 y_TC_save ∈ WS := WS_t 372 (by decide +kernel) (by decide +kernel)
theorem ms_TC_save : Cond.instanceMethod y_TC_save ∈ WS := WS_t 374 (by decide +kernel) (by decide +kernel)
theorem mc_TC_save : Cond.code y_TC_save b_TC_save 5 (some .int) ∈ WS := WS_t 375 (by decide +kernel) (by decide +kernel)
theorem m_TC_183 : Cond.methodLink R_TC 183 y_Way_put ∈ WS := WS_t 376 (by decide +kernel) (by decide +kernel)
theorem ms_Way_put : Cond.instanceMethod y_Way_put ∈ WS := WS_t 377 (by decide +kernel) (by decide +kernel)
theorem mv_Way_put : Cond.selects R_Way y_Way_put y_Way_put ∈ WS := WS_t 378 (by decide +kernel) (by decide +kernel)
theorem mc_Way_put : Cond.code y_Way_put b_Way_put 3 none ∈ WS := WS_t 379 (by decide +kernel) (by decide +kernel)
theorem m_TC_157 : Cond.methodLink R_TC 157 y_Core_branch ∈ WS := WS_t 380 (by decide +kernel) (by decide +kernel)
theorem ms_Core_branch : Cond.instanceMethod y_Core_branch ∈ WS := WS_t 381 (by decide +kernel) (by decide +kernel)
theorem mv_Core_branch : Cond.selects R_Core y_Core_branch y_Core_branch ∈ WS := WS_t 382 (by decide +kernel) (by decide +kernel)
theorem mc_Core_branch : Cond.code y_Core_branch b_Core_branch 4 none ∈ WS := WS_t 383 (by decide +kernel) (by decide +kernel)
theorem n_Core_54 : Cond.methodLinkNest R_Core 54 y_TC_place "TransactionCores" ∈ NW := NW_t 384 (by decide +kernel) rfl
theorem m_TC_160 : Cond.methodLink R_TC 160 y_Core_begin ∈ WS := WS_t 385 (by decide +kernel) (by decide +kernel)
theorem ms_Core_begin : Cond.instanceMethod y_Core_begin ∈ WS := WS_t 386 (by decide +kernel) (by decide +kernel)
theorem mv_Core_begin : Cond.selects R_Core y_Core_begin y_Core_begin ∈ WS := WS_t 387 (by decide +kernel) (by decide +kernel)
theorem mc_Core_begin : Cond.code y_Core_begin b_Core_begin 2 (some .int) ∈ WS := WS_t 388 (by decide +kernel) (by decide +kernel)
theorem m_Core_57 : Cond.methodLink R_Core 57 y_Core_abort ∈ WS := WS_t 389 (by decide +kernel) (by decide +kernel)
theorem m_TC_163 : Cond.methodLink R_TC 163 y_Core_fault ∈ WS := WS_t 390 (by decide +kernel) (by decide +kernel)
theorem ms_Core_fault : Cond.instanceMethod y_Core_fault ∈ WS := WS_t 391 (by decide +kernel) (by decide +kernel)
theorem mv_Core_fault : Cond.selects R_Core y_Core_fault y_Core_fault ∈ WS := WS_t 392 (by decide +kernel) (by decide +kernel)
theorem mc_Core_fault : Cond.code y_Core_fault b_Core_fault 2 (some .int) ∈ WS := WS_t 393 (by decide +kernel) (by decide +kernel)
theorem m_TC_166 : Cond.methodLink R_TC 166 y_Core_end ∈ WS := WS_t 394 (by decide +kernel) (by decide +kernel)
theorem ms_Core_end : Cond.instanceMethod y_Core_end ∈ WS := WS_t 395 (by decide +kernel) (by decide +kernel)
theorem mv_Core_end : Cond.selects R_Core y_Core_end y_Core_end ∈ WS := WS_t 396 (by decide +kernel) (by decide +kernel)
theorem mc_Core_end : Cond.code y_Core_end b_Core_end 1 (some .int) ∈ WS := WS_t 397 (by decide +kernel) (by decide +kernel)
theorem m_TC_170 : Cond.methodLink R_TC 170 y_Core_giveUp ∈ WS := WS_t 398 (by decide +kernel) (by decide +kernel)
theorem ms_Core_giveUp : Cond.instanceMethod y_Core_giveUp ∈ WS := WS_t 399 (by decide +kernel) (by decide +kernel)
theorem mv_Core_giveUp : Cond.selects R_Core y_Core_giveUp y_Core_giveUp ∈ WS := WS_t 400 (by decide +kernel) (by decide +kernel)
theorem mc_Core_giveUp : Cond.code y_Core_giveUp b_Core_giveUp 2 (some .int) ∈ WS := WS_t 401 (by decide +kernel) (by decide +kernel)
theorem m_Law_72 : Cond.methodLink R_Law 72 y_Law_run ∈ WS := WS_t 402 (by decide +kernel) (by decide +kernel)
theorem ms_Law_run : Cond.static y_Law_run ∈ WS := WS_t 403 (by decide +kernel) (by decide +kernel)
theorem m_Law_23 : Cond.classLink R_Law 23 "java/lang/IllegalArgumentException" ∈ WS := WS_t 405 (by decide +kernel) (by decide +kernel)
theorem m_Law_19 : Cond.methodLink R_Law 19 y_TC_run ∈ WS := WS_t 406 (by decide +kernel) (by decide +kernel)
theorem ms_TC_run : Cond.instanceMethod y_TC_run ∈ WS := WS_t 407 (by decide +kernel) (by decide +kernel)
theorem mv_TC_run : Cond.selects R_TC y_TC_run y_TC_run ∈ WS := WS_t 408 (by decide +kernel) (by decide +kernel)
theorem mc_TC_run : Cond.code y_TC_run b_TC_run 6 (some .int) ∈ WS := WS_t 409 (by decide +kernel) (by decide +kernel)
theorem m_TC_79 : Cond.classLink R_TC 79 "java/lang/IllegalArgumentException" ∈ WS := WS_t 410 (by decide +kernel) (by decide +kernel)
theorem m_TC_83 : Cond.methodLink R_TC 83 ⟨"java/lang/IllegalArgumentException", "<init>", "(Ljava/lang/String;)V"⟩ ∈ WS := WS_t 420 (by decide +kernel) (by decide +kernel)
theorem m_Law_76 : Cond.methodLink R_Law 76 y_Law_jump ∈ WS := WS_t 426 (by decide +kernel) (by decide +kernel)
theorem ms_Law_jump : Cond.static y_Law_jump ∈ WS := WS_t 427 (by decide +kernel) (by decide +kernel)
theorem m_Law_29 : Cond.classLink R_Law 29 "java/lang/IllegalStateException" ∈ WS := WS_t 429 (by decide +kernel) (by decide +kernel)
theorem m_Law_25 : Cond.methodLink R_Law 25 y_TC_jump ∈ WS := WS_t 430 (by decide +kernel) (by decide +kernel)
theorem ms_TC_jump : Cond.instanceMethod y_TC_jump ∈ WS := WS_t 431 (by decide +kernel) (by decide +kernel)
theorem mv_TC_jump : Cond.selects R_TC y_TC_jump y_TC_jump ∈ WS := WS_t 432 (by decide +kernel) (by decide +kernel)
theorem mc_TC_jump : Cond.code y_TC_jump b_TC_jump 3 none ∈ WS := WS_t 433 (by decide +kernel) (by decide +kernel)
theorem m_TC_89 : Cond.classLink R_TC 89 "java/lang/IllegalStateException" ∈ WS := WS_t 434 (by decide +kernel) (by decide +kernel)
theorem m_TC_93 : Cond.methodLink R_TC 93 ⟨"java/lang/IllegalStateException", "<init>", "(Ljava/lang/String;)V"⟩ ∈ WS := WS_t 444 (by decide +kernel) (by decide +kernel)
theorem m_Law_80 : Cond.methodLink R_Law 80 y_Law_register ∈ WS := WS_t 450 (by decide +kernel) (by decide +kernel)
theorem ms_Law_register : Cond.static y_Law_register ∈ WS := WS_t 451 (by decide +kernel) (by decide +kernel)
theorem m_Law_31 : Cond.methodLink R_Law 31 y_TC_register ∈ WS := WS_t 453 (by decide +kernel) (by decide +kernel)
theorem ms_TC_register : Cond.instanceMethod y_TC_register ∈ WS := WS_t 454 (by decide +kernel) (by decide +kernel)
theorem mv_TC_register : Cond.selects R_TC y_TC_register y_TC_register ∈ WS := WS_t 455 (by decide +kernel) (by decide +kernel)
theorem mc_TC_register : Cond.code y_TC_register b_TC_register 4 (some .int) ∈ WS := WS_t 456 (by decide +kernel) (by decide +kernel)
theorem m_Law_83 : Cond.methodLink R_Law 83 y_Law_fate ∈ WS := WS_t 457 (by decide +kernel) (by decide +kernel)
theorem ms_Law_fate : Cond.static y_Law_fate ∈ WS := WS_t 458 (by decide +kernel) (by decide +kernel)
theorem m_Law_34 : Cond.methodLink R_Law 34 y_TC_fate ∈ WS := WS_t 460 (by decide +kernel) (by decide +kernel)
theorem ms_TC_fate : Cond.instanceMethod y_TC_fate ∈ WS := WS_t 461 (by decide +kernel) (by decide +kernel)
theorem mv_TC_fate : Cond.selects R_TC y_TC_fate y_TC_fate ∈ WS := WS_t 462 (by decide +kernel) (by decide +kernel)
theorem mc_TC_fate : Cond.code y_TC_fate b_TC_fate 3 (some .int) ∈ WS := WS_t 463 (by decide +kernel) (by decide +kernel)
theorem m_Law_86 : Cond.methodLink R_Law 86 y_Law_way ∈ WS := WS_t 464 (by decide +kernel) (by decide +kernel)
theorem ms_Law_way : Cond.static y_Law_way ∈ WS := WS_t 465 (by decide +kernel) (by decide +kernel)
theorem m_Law_37 : Cond.methodLink R_Law 37 y_TC_way ∈ WS := WS_t 467 (by decide +kernel) (by decide +kernel)
theorem ms_TC_way : Cond.instanceMethod y_TC_way ∈ WS := WS_t 468 (by decide +kernel) (by decide +kernel)
theorem mv_TC_way : Cond.selects R_TC y_TC_way y_TC_way ∈ WS := WS_t 469 (by decide +kernel) (by decide +kernel)
theorem mc_TC_way : Cond.code y_TC_way b_TC_way 7 (some .int) ∈ WS := WS_t 470 (by decide +kernel) (by decide +kernel)
theorem m_TC_120 : Cond.methodLink R_TC 120 y_Way_tell ∈ WS := WS_t 471 (by decide +kernel) (by decide +kernel)
theorem ms_Way_tell : Cond.instanceMethod y_Way_tell ∈ WS := WS_t 472 (by decide +kernel) (by decide +kernel)
theorem mv_Way_tell : Cond.selects R_Way y_Way_tell y_Way_tell ∈ WS := WS_t 473 (by decide +kernel) (by decide +kernel)
theorem mc_Way_tell : Cond.code y_Way_tell b_Way_tell 2 (some .int) ∈ WS := WS_t 474 (by decide +kernel) (by decide +kernel)
theorem m_Law_49 : Cond.classLink R_Law 49 "TransactionCoresModel" ∈ WS := WS_t 475 (by decide +kernel) (by decide +kernel)
theorem mt_Model : Cond.instantiable R_Model 21 ∈ WS := WS_t 476 (by decide +kernel) (by decide +kernel)
theorem m_Law_51 : Cond.methodLink R_Law 51 y_Model_init ∈ WS := WS_t 477 (by decide +kernel) (by decide +kernel)
theorem ms_Model_init : Cond.instanceMethod y_Model_init ∈ WS := WS_t 478 (by decide +kernel) (by decide +kernel)
theorem mc_Model_init : Cond.code y_Model_init b_Model_init 4 none ∈ WS := WS_t 479 (by decide +kernel) (by decide +kernel)
theorem m_Model_1 : Cond.methodLink R_Model 1 ⟨"java/lang/Object", "<init>", "()V"⟩ ∈ WS := WS_t 480 (by decide +kernel) (by decide +kernel)
theorem m_Model_56 : Cond.fieldLink R_Model 56 "TransactionCoresModel" "cores" "I" ∈ WS := WS_t 481 (by decide +kernel) (by decide +kernel)
theorem m_Model_60 : Cond.fieldLink R_Model 60 "TransactionCoresModel" "sets" "I" ∈ WS := WS_t 482 (by decide +kernel) (by decide +kernel)
theorem m_Model_63 : Cond.fieldLink R_Model 63 "TransactionCoresModel" "ways" "I" ∈ WS := WS_t 483 (by decide +kernel) (by decide +kernel)
theorem m_Model_66 : Cond.fieldLink R_Model 66 "TransactionCoresModel" "code" "I" ∈ WS := WS_t 484 (by decide +kernel) (by decide +kernel)
theorem m_Model_95 : Cond.fieldLink R_Model 95 "TransactionCoresModel" "clock" "I" ∈ WS := WS_t 485 (by decide +kernel) (by decide +kernel)
theorem m_Model_88 : Cond.fieldLink R_Model 88 "TransactionCoresModel" "requests" "I" ∈ WS := WS_t 486 (by decide +kernel) (by decide +kernel)
theorem m_Model_7 : Cond.fieldLink R_Model 7 "TransactionCoresModel" "memory" "[I" ∈ WS := WS_t 487 (by decide +kernel) (by decide +kernel)
theorem m_Model_13 : Cond.fieldLink R_Model 13 "TransactionCoresModel" "registers" "[I" ∈ WS := WS_t 488 (by decide +kernel) (by decide +kernel)
theorem m_Model_16 : Cond.fieldLink R_Model 16 "TransactionCoresModel" "noted" "[I" ∈ WS := WS_t 489 (by decide +kernel) (by decide +kernel)
theorem m_Model_19 : Cond.fieldLink R_Model 19 "TransactionCoresModel" "program" "[I" ∈ WS := WS_t 490 (by decide +kernel) (by decide +kernel)
theorem m_Model_22 : Cond.fieldLink R_Model 22 "TransactionCoresModel" "pc" "[I" ∈ WS := WS_t 491 (by decide +kernel) (by decide +kernel)
theorem m_Model_25 : Cond.fieldLink R_Model 25 "TransactionCoresModel" "depth" "[I" ∈ WS := WS_t 492 (by decide +kernel) (by decide +kernel)
theorem m_Model_28 : Cond.fieldLink R_Model 28 "TransactionCoresModel" "fallback" "[I" ∈ WS := WS_t 493 (by decide +kernel) (by decide +kernel)
theorem m_Model_31 : Cond.fieldLink R_Model 31 "TransactionCoresModel" "stopped" "[Z" ∈ WS := WS_t 494 (by decide +kernel) (by decide +kernel)
theorem m_Model_35 : Cond.fieldLink R_Model 35 "TransactionCoresModel" "fates" "[I" ∈ WS := WS_t 495 (by decide +kernel) (by decide +kernel)
theorem m_Model_38 : Cond.fieldLink R_Model 38 "TransactionCoresModel" "state" "[I" ∈ WS := WS_t 496 (by decide +kernel) (by decide +kernel)
theorem m_Model_41 : Cond.fieldLink R_Model 41 "TransactionCoresModel" "line" "[I" ∈ WS := WS_t 497 (by decide +kernel) (by decide +kernel)
theorem m_Model_44 : Cond.fieldLink R_Model 44 "TransactionCoresModel" "marks" "[I" ∈ WS := WS_t 498 (by decide +kernel) (by decide +kernel)
theorem m_Model_47 : Cond.fieldLink R_Model 47 "TransactionCoresModel" "low" "[I" ∈ WS := WS_t 499 (by decide +kernel) (by decide +kernel)
theorem m_Model_50 : Cond.fieldLink R_Model 50 "TransactionCoresModel" "high" "[I" ∈ WS := WS_t 500 (by decide +kernel) (by decide +kernel)
theorem m_Model_53 : Cond.fieldLink R_Model 53 "TransactionCoresModel" "used" "[I" ∈ WS := WS_t 501 (by decide +kernel) (by decide +kernel)
theorem m_ac_boolean : Cond.arrayClass .boolean ∈ WS := WS_t 545 (by decide +kernel) (by decide +kernel)
theorem m_Law_56 : Cond.methodLink R_Law 56 y_Model_thrown ∈ WS := WS_t 546 (by decide +kernel) (by decide +kernel)
theorem ms_Model_thrown : Cond.instanceMethod y_Model_thrown ∈ WS := WS_t 547 (by decide +kernel) (by decide +kernel)
theorem mv_Model_thrown : Cond.selects R_Model y_Model_thrown y_Model_thrown ∈ WS := WS_t 548 (by decide +kernel) (by decide +kernel)
theorem mc_Model_thrown : Cond.code y_Model_thrown b_Model_thrown 1 (some .int) ∈ WS := WS_t 549 (by decide +kernel) (by decide +kernel)
theorem m_Law_55 : Cond.methodLink R_Law 55 y_Model_code ∈ WS := WS_t 550 (by decide +kernel) (by decide +kernel)
theorem ms_Model_code : Cond.instanceMethod y_Model_code ∈ WS := WS_t 551 (by decide +kernel) (by decide +kernel)
theorem mv_Model_code : Cond.selects R_Model y_Model_code y_Model_code ∈ WS := WS_t 552 (by decide +kernel) (by decide +kernel)
theorem mc_Model_code : Cond.code y_Model_code b_Model_code 4 none ∈ WS := WS_t 553 (by decide +kernel) (by decide +kernel)
theorem m_Model_98 : Cond.methodLink R_Model 98 y_Model_isCore ∈ WS := WS_t 554 (by decide +kernel) (by decide +kernel)
theorem ms_Model_isCore : Cond.instanceMethod y_Model_isCore ∈ WS := WS_t 556 (by decide +kernel) (by decide +kernel)
theorem mc_Model_isCore : Cond.code y_Model_isCore b_Model_isCore 2 (some .boolean) ∈ WS := WS_t 557 (by decide +kernel) (by decide +kernel)
theorem m_Law_63 : Cond.methodLink R_Law 63 y_Model_poke ∈ WS := WS_t 558 (by decide +kernel) (by decide +kernel)
theorem ms_Model_poke : Cond.instanceMethod y_Model_poke ∈ WS := WS_t 559 (by decide +kernel) (by decide +kernel)
theorem mv_Model_poke : Cond.selects R_Model y_Model_poke y_Model_poke ∈ WS := WS_t 560 (by decide +kernel) (by decide +kernel)
theorem mc_Model_poke : Cond.code y_Model_poke b_Model_poke 4 none ∈ WS := WS_t 561 (by decide +kernel) (by decide +kernel)
theorem m_Model_91 : Cond.methodLink R_Model 91 y_Model_meet ∈ WS := WS_t 562 (by decide +kernel) (by decide +kernel)
theorem ms_Model_meet : Cond.instanceMethod y_Model_meet ∈ WS := WS_t 564 (by decide +kernel) (by decide +kernel)
theorem mc_Model_meet : Cond.code y_Model_meet b_Model_meet 5 none ∈ WS := WS_t 565 (by decide +kernel) (by decide +kernel)
theorem m_Model_73 : Cond.methodLink R_Model 73 y_Model_find ∈ WS := WS_t 566 (by decide +kernel) (by decide +kernel)
theorem ms_Model_find : Cond.instanceMethod y_Model_find ∈ WS := WS_t 568 (by decide +kernel) (by decide +kernel)
theorem mc_Model_find : Cond.code y_Model_find b_Model_find 6 (some .int) ∈ WS := WS_t 569 (by decide +kernel) (by decide +kernel)
theorem m_Model_69 : Cond.methodLink R_Model 69 y_Model_place ∈ WS := WS_t 570 (by decide +kernel) (by decide +kernel)
theorem ms_Model_place : Cond.instanceMethod y_Model_place ∈ WS := WS_t 572 (by decide +kernel) (by decide +kernel)
theorem mc_Model_place : Cond.code y_Model_place b_Model_place 4 (some .int) ∈ WS := WS_t 573 (by decide +kernel) (by decide +kernel)
theorem m_Model_77 : Cond.methodLink R_Model 77 y_Model_abort ∈ WS := WS_t 574 (by decide +kernel) (by decide +kernel)
theorem ms_Model_abort : Cond.instanceMethod y_Model_abort ∈ WS := WS_t 576 (by decide +kernel) (by decide +kernel)
theorem mc_Model_abort : Cond.code y_Model_abort b_Model_abort 5 none ∈ WS := WS_t 577 (by decide +kernel) (by decide +kernel)
theorem m_Model_81 : Cond.methodLink R_Model 81 y_Model_toMemory ∈ WS := WS_t 578 (by decide +kernel) (by decide +kernel)
theorem ms_Model_toMemory : Cond.instanceMethod y_Model_toMemory ∈ WS := WS_t 580 (by decide +kernel) (by decide +kernel)
theorem mc_Model_toMemory : Cond.code y_Model_toMemory b_Model_toMemory 2 none ∈ WS := WS_t 581 (by decide +kernel) (by decide +kernel)
theorem m_Law_67 : Cond.methodLink R_Law 67 y_Model_peek ∈ WS := WS_t 582 (by decide +kernel) (by decide +kernel)
theorem ms_Model_peek : Cond.instanceMethod y_Model_peek ∈ WS := WS_t 583 (by decide +kernel) (by decide +kernel)
theorem mv_Model_peek : Cond.selects R_Model y_Model_peek y_Model_peek ∈ WS := WS_t 584 (by decide +kernel) (by decide +kernel)
theorem mc_Model_peek : Cond.code y_Model_peek b_Model_peek 6 (some .int) ∈ WS := WS_t 585 (by decide +kernel) (by decide +kernel)
theorem m_Law_71 : Cond.methodLink R_Law 71 y_Model_step ∈ WS := WS_t 586 (by decide +kernel) (by decide +kernel)
theorem ms_Model_step : Cond.instanceMethod y_Model_step ∈ WS := WS_t 587 (by decide +kernel) (by decide +kernel)
theorem mv_Model_step : Cond.selects R_Model y_Model_step y_Model_step ∈ WS := WS_t 588 (by decide +kernel) (by decide +kernel)
theorem mc_Model_step : Cond.code y_Model_step b_Model_step 2 (some .int) ∈ WS := WS_t 589 (by decide +kernel) (by decide +kernel)
theorem m_Model_117 : Cond.methodLink R_Model 117 y_Model_stepped ∈ WS := WS_t 590 (by decide +kernel) (by decide +kernel)
theorem ms_Model_stepped : Cond.instanceMethod y_Model_stepped ∈ WS := WS_t 592 (by decide +kernel) (by decide +kernel)
theorem mc_Model_stepped : Cond.code y_Model_stepped b_Model_stepped 9 (some .int) ∈ WS := WS_t 593 (by decide +kernel) (by decide +kernel)
theorem m_Model_102 : Cond.methodLink R_Model 102 y_Model_moved ∈ WS := WS_t 594 (by decide +kernel) (by decide +kernel)
theorem ms_Model_moved : Cond.instanceMethod y_Model_moved ∈ WS := WS_t 596 (by decide +kernel) (by decide +kernel)
theorem mc_Model_moved : Cond.code y_Model_moved b_Model_moved 7 (some .int) ∈ WS := WS_t 597 (by decide +kernel) (by decide +kernel)
theorem m_Model_113 : Cond.methodLink R_Model 113 y_Model_access ∈ WS := WS_t 598 (by decide +kernel) (by decide +kernel)
theorem ms_Model_access : Cond.instanceMethod y_Model_access ∈ WS := WS_t 600 (by decide +kernel) (by decide +kernel)
theorem mc_Model_access : Cond.code y_Model_access b_Model_access 7 (some .int) ∈ WS := WS_t 601 (by decide +kernel) (by decide +kernel)
theorem m_Model_85 : Cond.methodLink R_Model 85 y_Model_room ∈ WS := WS_t 602 (by decide +kernel) (by decide +kernel)
theorem ms_Model_room : Cond.instanceMethod y_Model_room ∈ WS := WS_t 604 (by decide +kernel) (by decide +kernel)
theorem mc_Model_room : Cond.code y_Model_room b_Model_room 6 (some .int) ∈ WS := WS_t 605 (by decide +kernel) (by decide +kernel)
theorem m_Model_106 : Cond.methodLink R_Model 106 y_Model_ruled ∈ WS := WS_t 606 (by decide +kernel) (by decide +kernel)
theorem ms_Model_ruled : Cond.instanceMethod y_Model_ruled ∈ WS := WS_t 608 (by decide +kernel) (by decide +kernel)
theorem mc_Model_ruled : Cond.code y_Model_ruled b_Model_ruled 5 (some .int) ∈ WS := WS_t 609 (by decide +kernel) (by decide +kernel)
theorem m_Model_109 : Cond.methodLink R_Model 109 y_Model_fault ∈ WS := WS_t 610 (by decide +kernel) (by decide +kernel)
theorem ms_Model_fault : Cond.instanceMethod y_Model_fault ∈ WS := WS_t 612 (by decide +kernel) (by decide +kernel)
theorem mc_Model_fault : Cond.code y_Model_fault b_Model_fault 2 (some .int) ∈ WS := WS_t 613 (by decide +kernel) (by decide +kernel)
theorem m_Law_75 : Cond.methodLink R_Law 75 y_Model_run ∈ WS := WS_t 614 (by decide +kernel) (by decide +kernel)
theorem ms_Model_run : Cond.instanceMethod y_Model_run ∈ WS := WS_t 615 (by decide +kernel) (by decide +kernel)
theorem mv_Model_run : Cond.selects R_Model y_Model_run y_Model_run ∈ WS := WS_t 616 (by decide +kernel) (by decide +kernel)
theorem mc_Model_run : Cond.code y_Model_run b_Model_run 5 (some .int) ∈ WS := WS_t 617 (by decide +kernel) (by decide +kernel)
theorem m_Law_79 : Cond.methodLink R_Law 79 y_Model_jump ∈ WS := WS_t 618 (by decide +kernel) (by decide +kernel)
theorem ms_Model_jump : Cond.instanceMethod y_Model_jump ∈ WS := WS_t 619 (by decide +kernel) (by decide +kernel)
theorem mv_Model_jump : Cond.selects R_Model y_Model_jump y_Model_jump ∈ WS := WS_t 620 (by decide +kernel) (by decide +kernel)
theorem mc_Model_jump : Cond.code y_Model_jump b_Model_jump 3 none ∈ WS := WS_t 621 (by decide +kernel) (by decide +kernel)
theorem m_Law_82 : Cond.methodLink R_Law 82 y_Model_register ∈ WS := WS_t 622 (by decide +kernel) (by decide +kernel)
theorem ms_Model_register : Cond.instanceMethod y_Model_register ∈ WS := WS_t 623 (by decide +kernel) (by decide +kernel)
theorem mv_Model_register : Cond.selects R_Model y_Model_register y_Model_register ∈ WS := WS_t 624 (by decide +kernel) (by decide +kernel)
theorem mc_Model_register : Cond.code y_Model_register b_Model_register 3 (some .int) ∈ WS := WS_t 625 (by decide +kernel) (by decide +kernel)
theorem m_Model_120 : Cond.methodLink R_Model 120 y_Model_fail ∈ WS := WS_t 626 (by decide +kernel) (by decide +kernel)
theorem ms_Model_fail : Cond.instanceMethod y_Model_fail ∈ WS := WS_t 628 (by decide +kernel) (by decide +kernel)
theorem mc_Model_fail : Cond.code y_Model_fail b_Model_fail 2 (some .int) ∈ WS := WS_t 629 (by decide +kernel) (by decide +kernel)
theorem m_Law_85 : Cond.methodLink R_Law 85 y_Model_fate ∈ WS := WS_t 630 (by decide +kernel) (by decide +kernel)
theorem ms_Model_fate : Cond.instanceMethod y_Model_fate ∈ WS := WS_t 631 (by decide +kernel) (by decide +kernel)
theorem mv_Model_fate : Cond.selects R_Model y_Model_fate y_Model_fate ∈ WS := WS_t 632 (by decide +kernel) (by decide +kernel)
theorem mc_Model_fate : Cond.code y_Model_fate b_Model_fate 3 (some .int) ∈ WS := WS_t 633 (by decide +kernel) (by decide +kernel)
theorem m_Law_89 : Cond.methodLink R_Law 89 y_Model_way ∈ WS := WS_t 634 (by decide +kernel) (by decide +kernel)
theorem ms_Model_way : Cond.instanceMethod y_Model_way ∈ WS := WS_t 635 (by decide +kernel) (by decide +kernel)
theorem mv_Model_way : Cond.selects R_Model y_Model_way y_Model_way ∈ WS := WS_t 636 (by decide +kernel) (by decide +kernel)
theorem mc_Model_way : Cond.code y_Model_way b_Model_way 6 (some .int) ∈ WS := WS_t 637 (by decide +kernel) (by decide +kernel)
theorem m_Law_93 : Cond.methodLink R_Law 93 y_Model_memory ∈ WS := WS_t 638 (by decide +kernel) (by decide +kernel)
theorem ms_Model_memory : Cond.instanceMethod y_Model_memory ∈ WS := WS_t 639 (by decide +kernel) (by decide +kernel)
theorem mv_Model_memory : Cond.selects R_Model y_Model_memory y_Model_memory ∈ WS := WS_t 640 (by decide +kernel) (by decide +kernel)
theorem mc_Model_memory : Cond.code y_Model_memory b_Model_memory 2 (some .int) ∈ WS := WS_t 641 (by decide +kernel) (by decide +kernel)
theorem m_Law_97 : Cond.methodLink R_Law 97 y_Model_requests ∈ WS := WS_t 642 (by decide +kernel) (by decide +kernel)
theorem ms_Model_requests : Cond.instanceMethod y_Model_requests ∈ WS := WS_t 643 (by decide +kernel) (by decide +kernel)
theorem mv_Model_requests : Cond.selects R_Model y_Model_requests y_Model_requests ∈ WS := WS_t 644 (by decide +kernel) (by decide +kernel)
theorem mc_Model_requests : Cond.code y_Model_requests b_Model_requests 1 (some .int) ∈ WS := WS_t 645 (by decide +kernel) (by decide +kernel)
theorem m_ac_long : Cond.arrayClass .long ∈ WS := WS_t 646 (by decide +kernel) (by decide +kernel)
theorem mv_TC_sendRequest : Cond.selects R_TC y_TC_sendRequest y_TC_sendRequest ∈ WS := WS_p 0 (by decide +kernel) (by decide +kernel)
theorem mv_Cache_firstOfSet : Cond.selects R_Cache y_Cache_firstOfSet y_Cache_firstOfSet ∈ WS := WS_p 1 (by decide +kernel) (by decide +kernel)
theorem mv_TC_meetRequest : Cond.selects R_TC y_TC_meetRequest y_TC_meetRequest ∈ WS := WS_p 2 (by decide +kernel) (by decide +kernel)
theorem mv_TC_takeStep : Cond.selects R_TC y_TC_takeStep y_TC_takeStep ∈ WS := WS_p 4 (by decide +kernel) (by decide +kernel)
theorem mv_TC_load : Cond.selects R_TC y_TC_load y_TC_load ∈ WS := WS_p 5 (by decide +kernel) (by decide +kernel)
theorem mv_TC_access : Cond.selects R_TC y_TC_access y_TC_access ∈ WS := WS_p 6 (by decide +kernel) (by decide +kernel)
theorem mv_TC_refill : Cond.selects R_TC y_TC_refill y_TC_refill ∈ WS := WS_p 7 (by decide +kernel) (by decide +kernel)
theorem mv_TC_makeModified : Cond.selects R_TC y_TC_makeModified y_TC_makeModified ∈ WS := WS_p 8 (by decide +kernel) (by decide +kernel)
theorem mv_TC_save : Cond.selects R_TC y_TC_save y_TC_save ∈ WS := WS_p 9 (by decide +kernel) (by decide +kernel)
theorem mv_Model_isCore : Cond.selects R_Model y_Model_isCore y_Model_isCore ∈ WS := WS_p 10 (by decide +kernel) (by decide +kernel)
theorem mv_Model_meet : Cond.selects R_Model y_Model_meet y_Model_meet ∈ WS := WS_p 11 (by decide +kernel) (by decide +kernel)
theorem mv_Model_find : Cond.selects R_Model y_Model_find y_Model_find ∈ WS := WS_p 12 (by decide +kernel) (by decide +kernel)
theorem mv_Model_place : Cond.selects R_Model y_Model_place y_Model_place ∈ WS := WS_p 13 (by decide +kernel) (by decide +kernel)
theorem mv_Model_abort : Cond.selects R_Model y_Model_abort y_Model_abort ∈ WS := WS_p 14 (by decide +kernel) (by decide +kernel)
theorem mv_Model_toMemory : Cond.selects R_Model y_Model_toMemory y_Model_toMemory ∈ WS := WS_p 15 (by decide +kernel) (by decide +kernel)
theorem mv_Model_stepped : Cond.selects R_Model y_Model_stepped y_Model_stepped ∈ WS := WS_p 16 (by decide +kernel) (by decide +kernel)
theorem mv_Model_moved : Cond.selects R_Model y_Model_moved y_Model_moved ∈ WS := WS_p 17 (by decide +kernel) (by decide +kernel)
theorem mv_Model_access : Cond.selects R_Model y_Model_access y_Model_access ∈ WS := WS_p 18 (by decide +kernel) (by decide +kernel)
theorem mv_Model_room : Cond.selects R_Model y_Model_room y_Model_room ∈ WS := WS_p 19 (by decide +kernel) (by decide +kernel)
theorem mv_Model_ruled : Cond.selects R_Model y_Model_ruled y_Model_ruled ∈ WS := WS_p 20 (by decide +kernel) (by decide +kernel)
theorem mv_Model_fault : Cond.selects R_Model y_Model_fault y_Model_fault ∈ WS := WS_p 21 (by decide +kernel) (by decide +kernel)
theorem mv_Model_fail : Cond.selects R_Model y_Model_fail y_Model_fail ∈ WS := WS_p 22 (by decide +kernel) (by decide +kernel)
theorem m_oi : Cond.instanceMethod objectInit ∈ WS := by decide +kernel
theorem m_oc : Cond.code objectInit ⟨#[0xb1]⟩ 1 none ∈ WS := by decide +kernel
theorem m_st_min : Cond.static Lib.Math.min.name ∈ WS := by decide +kernel
theorem m_co_min : Cond.code Lib.Math.min.name Lib.Math.min.code 2 (some .int) ∈ WS := by decide +kernel
theorem m_st_max : Cond.static Lib.Math.max.name ∈ WS := by decide +kernel
theorem m_co_max : Cond.code Lib.Math.max.name Lib.Math.max.code 2 (some .int) ∈ WS := by decide +kernel
theorem m_cp_n : Cond.native arraycopyName ∈ WS := by decide +kernel
theorem m_cp_s : Cond.static arraycopyName ∈ WS := by decide +kernel
end
section
abbrev tk_K : Type := Nat × Nat × Nat
abbrev tk_L : Type := tk_K → Nat → Value
abbrev tk_W : Type := (tk_K → Prop) × Option Nat
abbrev tk_G : Type := va_G × List vw_C × List (ClassId × FieldType) × (tk_K → Nat) × (tk_K → Nat ⊕ (Nat × Nat)) × (tk_K → Prop) × List Cond × Heap
def tk_ad (G : tk_G) : tk_K → Nat := G.2.2.2.1
def tk_kd (G : tk_G) : tk_K → Nat ⊕ (Nat × Nat) := G.2.2.2.2.1
def tk_do (G : tk_G) : tk_K → Prop := G.2.2.2.2.2.1
def tk_nw (G : tk_G) : List Cond := G.2.2.2.2.2.2.1
def tk_h0 (G : tk_G) : Heap := G.2.2.2.2.2.2.2
def tk_up (sl : tk_L) (k : tk_K) (j : Nat) (v : Value) : tk_L := fun k' => if k' = k then updV (sl k) j v else sl k'
theorem tk_up_self (sl : tk_L) (k : tk_K) (j : Nat) (v : Value) : tk_up sl k j v k = updV (sl k) j v := by simp [tk_up]
theorem tk_up_ne (sl : tk_L) {k k' : tk_K} (j : Nat) (v : Value) (h : k' ≠ k) : tk_up sl k j v k' = sl k' := by simp [tk_up, h]
theorem tk_arrV (cI : ClassId) (N : Nat) {f g : Nat → Value} (h : ∀ j, j < N → f j = g j) : arrV cI N f = arrV cI N g := by
  have e : (fun j : Fin N => f j.val) = fun j : Fin N => g j.val := funext fun j => h j.val j.isLt
  unfold arrV
  rw [e]
def tk_at (G : tk_G) (sl : tk_L) (H : Heap) (k : tk_K) : Prop := match tk_kd G k with
  | .inl ci => ∃ r : vw_C, G.2.1[ci]? = some r ∧ t_OB (tk_ad G k) (G.1.1 ci) r.2.2 (G.1.2 ci) H (sl k)
  | .inr q => ∃ r : ClassId × FieldType, G.2.2.1[q.1]? = some r ∧ H[tk_ad G k]? = some (arrV r.1 q.2 (sl k))
def tk_H (G : tk_G) (dm : tk_W) (sl : tk_L) (H : Heap) : Prop := (∀ k, dm.1 k → tk_do G k ∧ tk_at G sl H k) ∧ (∀ q : Nat, q < (tk_h0 G).size → H[q]? = (tk_h0 G)[q]?) ∧ (tk_h0 G).size ≤ H.size ∧ ∀ n, dm.2 = some n → H.size = n
def tk_A (G : tk_G) : Prop := (∀ k, tk_do G k → (tk_h0 G).size ≤ tk_ad G k) ∧ ∀ k k', tk_do G k → tk_do G k' → tk_ad G k = tk_ad G k' → k = k'
def tk_nest (w : Cond) : Prop := (∃ a i b n d h, w = .fieldLinkNest a i b n d h) ∨ (∃ a i x h, w = .methodLinkNest a i x h) ∨ ∃ C, w = .arrayOver (.object C)
def tk_V (G : tk_G) (U : State) : Prop := va_K G.1 G.2.1 G.2.2.1 U ∧ ∀ w ∈ tk_nw G, tk_nest w ∧ va_Nw w U
theorem tk_V.warm {G : tk_G} {s U : State} (h : tk_V G s) (hW : s.WarmedH U.vm) : tk_V G U := by
  refine ⟨va_K.moved hW.alike h.1, fun w hw => ⟨(h.2 w hw).1, ?_⟩⟩
  have h2 := (h.2 w hw).2
  rcases (h.2 w hw).1 with ⟨a, i, b, n, d, z, rfl⟩ | ⟨a, i, x, z, rfl⟩ | ⟨C, rfl⟩
  · exact va_Nw.warmF hW h2
  · exact va_Nw.warmM hW h2
  · exact va_AO.moved hW.alike h2
theorem tk_V.same {G : tk_G} {s U : State} (h : tk_V G s) (hv : s.vm = U.vm) : tk_V G U := by
  refine ⟨va_K.moved (by rw [hv]; exact Vm.Alike.refl _) h.1, fun w hw => ⟨(h.2 w hw).1, ?_⟩⟩
  have h2 := (h.2 w hw).2
  rcases (h.2 w hw).1 with ⟨a, i, b, n, d, z, rfl⟩ | ⟨a, i, x, z, rfl⟩ | ⟨C, rfl⟩
  · exact va_Nw.same rfl hv h2
  · exact va_Nw.same rfl hv h2
  · exact va_AO.moved (by rw [hv]; exact Vm.Alike.refl _) h2
theorem tk_at.kept {G : tk_G} {sl : tk_L} {H H1 : Heap} {k : tk_K} (h : tk_at G sl H k) (hq : H1[tk_ad G k]? = H[tk_ad G k]?) : tk_at G sl H1 k := by
  unfold tk_at at h ⊢
  split at h
  · rename_i ci e
    obtain ⟨r, h1, h2⟩ := h
    exact ⟨r, h1, h2.kept hq⟩
  · rename_i q e
    obtain ⟨r, h1, h2⟩ := h
    exact ⟨r, h1, by rw [hq]; exact h2⟩
theorem tk_at.to {G : tk_G} {sl sl' : tk_L} {H : Heap} {k : tk_K} (h : tk_at G sl H k) (hs : sl k = sl' k) : tk_at G sl' H k := by
  unfold tk_at at h ⊢
  rw [← hs]
  exact h
theorem tk_at.obj {G : tk_G} {sl : tk_L} {H : Heap} {k : tk_K} {ci : Nat} (h : tk_at G sl H k) (e : tk_kd G k = .inl ci) : ∃ r : vw_C, G.2.1[ci]? = some r ∧ t_OB (tk_ad G k) (G.1.1 ci) r.2.2 (G.1.2 ci) H (sl k) := by
  unfold tk_at at h
  rw [e] at h
  exact h
theorem tk_at.arr {G : tk_G} {sl : tk_L} {H : Heap} {k : tk_K} {t n : Nat} (h : tk_at G sl H k) (e : tk_kd G k = .inr (t, n)) : ∃ r : ClassId × FieldType, G.2.2.1[t]? = some r ∧ H[tk_ad G k]? = some (arrV r.1 n (sl k)) := by
  unfold tk_at at h
  rw [e] at h
  exact h
theorem tk_at.ofObj {G : tk_G} {sl : tk_L} {H : Heap} {k : tk_K} {ci : Nat} (e : tk_kd G k = .inl ci) (h : ∃ r : vw_C, G.2.1[ci]? = some r ∧ t_OB (tk_ad G k) (G.1.1 ci) r.2.2 (G.1.2 ci) H (sl k)) : tk_at G sl H k := by
  unfold tk_at
  rw [e]
  exact h
theorem tk_at.ofArr {G : tk_G} {sl : tk_L} {H : Heap} {k : tk_K} {t n : Nat} (e : tk_kd G k = .inr (t, n)) (h : ∃ r : ClassId × FieldType, G.2.2.1[t]? = some r ∧ H[tk_ad G k]? = some (arrV r.1 n (sl k))) : tk_at G sl H k := by
  unfold tk_at
  rw [e]
  exact h
theorem tk_at.lt {G : tk_G} {sl : tk_L} {H : Heap} {k : tk_K} (h : tk_at G sl H k) : tk_ad G k < H.size := by
  unfold tk_at at h
  split at h
  · obtain ⟨r, -, cell, h2, -⟩ := h
    exact (Array.getElem?_eq_some_iff.mp h2).1
  · obtain ⟨r, -, h2⟩ := h
    exact (Array.getElem?_eq_some_iff.mp h2).1
theorem tk_H.put {G : tk_G} {dm : tk_W} {sl sl' : tk_L} {H H1 : Heap} {k : tk_K} (hH : tk_H G dm sl H) (hA : tk_A G) (hk : dm.1 k) (hs : ∀ k', k' ≠ k → sl' k' = sl k') (he : tk_at G sl' H1 k) (z : H1.size = H.size) (oq : ∀ q : Nat, q ≠ tk_ad G k → H1[q]? = H[q]?) : tk_H G dm sl' H1 := by
  obtain ⟨h1, h2, h3, h4⟩ := hH
  refine ⟨fun k' hk' => ⟨(h1 k' hk').1, ?_⟩, fun q hq => ?_, by rw [z]; exact h3, fun n hn => by rw [z]; exact h4 n hn⟩
  · by_cases e : k' = k
    · subst e
      exact he
    · exact ((h1 k' hk').2.kept (oq _ (fun x => e (hA.2 k' k (h1 k' hk').1 (h1 k hk).1 x)))).to (hs k' e).symm
  · rw [oq q (fun x => ?_)]
    · exact h2 q hq
    · have := hA.1 k (h1 k hk).1
      omega
theorem tk_H.new {G : tk_G} {P : tk_K → Prop} {n : Nat} {sl : tk_L} {H H1 : Heap} {k : tk_K} (hH : tk_H G (P, some n) sl H) (hk : tk_do G k) (he : tk_at G sl H1 k) (z : H1.size = H.size + 1) (oq : ∀ q : Nat, q < H.size → H1[q]? = H[q]?) : tk_H G (fun k' => k' = k ∨ P k', some (n + 1)) sl H1 := by
  obtain ⟨h1, h2, h3, h4⟩ := hH
  refine ⟨fun k' hk' => ?_, fun q hq => ?_, by omega, fun n' hn => ?_⟩
  · rcases hk' with rfl | hk'
    · exact ⟨hk, he⟩
    · exact ⟨(h1 k' hk').1, (h1 k' hk').2.kept (oq _ (h1 k' hk').2.lt)⟩
  · rw [oq q (by omega)]
    exact h2 q hq
  · have e : n + 1 = n' := Option.some.inj hn
    have := h4 n rfl
    omega
theorem tk_H.dom {G : tk_G} {dm dm' : tk_W} {sl : tk_L} {H : Heap} (hH : tk_H G dm sl H) (h : ∀ k, dm'.1 k → dm.1 k) (hz : dm'.2 = none ∨ dm'.2 = dm.2) : tk_H G dm' sl H := by
  obtain ⟨h1, h2, h3, h4⟩ := hH
  refine ⟨fun k hk => h1 k (h k hk), h2, h3, fun n hn => ?_⟩
  rcases hz with e | e
  · rw [e] at hn; cases hn
  · exact h4 n (by rw [← e]; exact hn)
def tk_sz (G : tk_G) (k : tk_K) : Nat := match tk_kd G k with
  | .inl ci => (match G.2.1[ci]? with
    | some r => r.2.2
    | none => 0)
  | .inr q => q.2
theorem tk_at.ext {G : tk_G} {sl sl' : tk_L} {H : Heap} {k : tk_K} (h : tk_at G sl H k) (hs : ∀ j, j < tk_sz G k → sl k j = sl' k j) : tk_at G sl' H k := by
  cases e : tk_kd G k with
  | inl ci =>
    obtain ⟨r, h1, h2⟩ := h.obj e
    refine tk_at.ofObj e ⟨r, h1, h2.to (fun j hj => hs j ?_)⟩
    unfold tk_sz
    rw [e]
    simp only [h1]
    exact hj
  | inr q =>
    obtain ⟨t, n⟩ := q
    obtain ⟨r, h1, h2⟩ := h.arr e
    refine tk_at.ofArr e ⟨r, h1, ?_⟩
    rw [h2, tk_arrV r.1 n (fun j hj => hs j ?_)]
    unfold tk_sz
    rw [e]
    exact hj
theorem tk_H.ext {G : tk_G} {dm : tk_W} {sl sl' : tk_L} {H : Heap} (hH : tk_H G dm sl H) (h : ∀ k, dm.1 k → ∀ j, j < tk_sz G k → sl k j = sl' k j) : tk_H G dm sl' H := by
  obtain ⟨h1, h2, h3, h4⟩ := hH
  exact ⟨fun k hk => ⟨(h1 k hk).1, (h1 k hk).2.ext (h k hk)⟩, h2, h3, h4⟩
theorem tk_H.congr {G : tk_G} {dm : tk_W} {sl sl' : tk_L} {H : Heap} (hH : tk_H G dm sl H) (h : ∀ k, dm.1 k → sl k = sl' k) : tk_H G dm sl' H := by
  obtain ⟨h1, h2, h3, h4⟩ := hH
  exact ⟨fun k hk => ⟨(h1 k hk).1, (h1 k hk).2.to (h k hk)⟩, h2, h3, h4⟩
def tk_lv (ls : Array Slot) (nL : Nat) (L : List (Option Value)) : Prop := ls.size = nL ∧ lv_wf ls ∧ ∀ (i : Nat) (v : Value), L[i]? = some (some v) → v.category = 1 ∧ ls[i]? = some (.val v)
def tk_pr : Nat → List (Option Value) → List (Nat × Value)
  | _, [] => []
  | b, none :: t => tk_pr (b + 1) t
  | b, some v :: t => (b, v) :: tk_pr (b + 1) t
theorem tk_pr_mem : ∀ (L : List (Option Value)) (b : Nat) (q : Nat × Value), q ∈ tk_pr b L ↔ ∃ j, q.1 = b + j ∧ L[j]? = some (some q.2)
  | [], b, q => by simp [tk_pr]
  | none :: t, b, q => by
    rw [tk_pr, tk_pr_mem t (b + 1) q]
    constructor
    · rintro ⟨j, h1, h2⟩
      exact ⟨j + 1, by omega, by simpa using h2⟩
    · rintro ⟨j, h1, h2⟩
      cases j with
      | zero => simp at h2
      | succ j => exact ⟨j, by omega, by simpa using h2⟩
  | some v :: t, b, q => by
    rw [tk_pr, List.mem_cons, tk_pr_mem t (b + 1) q]
    constructor
    · rintro (rfl | ⟨j, h1, h2⟩)
      · exact ⟨0, rfl, rfl⟩
      · exact ⟨j + 1, by omega, by simpa using h2⟩
    · rintro ⟨j, h1, h2⟩
      cases j with
      | zero =>
        left
        obtain ⟨a, w⟩ := q
        simp at h1 h2
        rw [h1, h2]
      | succ j => exact Or.inr ⟨j, by omega, by simpa using h2⟩
theorem tk_lv.has {ls : Array Slot} {nL : Nat} {L : List (Option Value)} (h : tk_lv ls nL L) : lv_has ls nL (tk_pr 0 L) := by
  refine ⟨h.1, h.2.1, fun q hq => ?_⟩
  obtain ⟨j, h1, h2⟩ := (tk_pr_mem L 0 q).mp hq
  have h3 := (h.2.2 j q.2 h2).2
  rw [h1, Nat.zero_add]
  exact h3
theorem tk_lv.at {ls : Array Slot} {nL : Nat} {L : List (Option Value)} (h : tk_lv ls nL L) {i : Nat} {v : Value} (hi : L[i]? = some (some v)) : ls[i]? = some (.val v) := (h.2.2 i v hi).2
theorem tk_lv.set {ls ls' : Array Slot} {nL : Nat} {L : List (Option Value)} {i : Nat} {v : Value} (h : tk_lv ls nL L) (hc : v.category = 1) (h' : lv_has ls' nL ((i, v) :: (tk_pr 0 L).filter (fun q => !(q.1 == i) && !(q.1 + 1 == i && q.2.category == 2)))) : tk_lv ls' nL (L.set i (some v)) := by
  refine ⟨h'.1, h'.2.1, fun j w hj => ?_⟩
  by_cases e : j = i
  · subst e
    have e1 : some (some w) = some (some v) := by
      rw [← hj]
      have hl : j < (L.set j (some v)).length := (List.getElem?_eq_some_iff.mp hj).1
      rw [List.getElem?_set_self (by simpa using hl)]
    have e2 : w = v := by simpa using e1
    subst e2
    exact ⟨hc, h'.2.2 (j, w) List.mem_cons_self⟩
  · rw [List.getElem?_set_ne (Ne.symm e)] at hj
    have hw := h.2.2 j w hj
    refine ⟨hw.1, h'.2.2 (j, w) (List.mem_cons_of_mem _ (List.mem_filter.mpr ⟨(tk_pr_mem L 0 (j, w)).mpr ⟨j, by simp, hj⟩, ?_⟩))⟩
    simp [e, hw.1]
def tk_X (p : Program) (m : MethodId) (c : Code) (s : State) (args : Array Value) (G : tk_G) (own : String) (cc : ByteArray) (nL : Nat) (Ts : List Cond) : Prop := CallFix p m c cc nL s args Ts own ∧ tk_V G s ∧ tk_A G
def tk_go (p : Program) (l : Launch) (e : Env) (R : Room) (s : State) (m : MethodId) (args : Array Value) (below : List Frame) (meth : Method) (c : Code) (G : tk_G) (dm : tk_W) (nL cells slots : Nat) (Q : State → Prop) (sl : tk_L) (pc : Nat) (L : List (Option Value)) (st : List Value) : Prop :=
  ∀ (H : Heap) (locs : List Loc) (ls : Array Slot), tk_H G dm sl H → (∀ q ∈ locs, (tk_h0 G).size ≤ q.base) → tk_lv ls nL L → W p l e R s m args below meth c H locs cells slots Q (F0 m pc ls st)
section TK
variable {p : Program} {l : Launch} {e : Env} {R : Room} {s : State} {m : MethodId} {args : Array Value} {below : List Frame} {meth : Method} {c : Code} {G : tk_G} {dm : tk_W} {nL cells slots : Nat} {Q : State → Prop} {sl : tk_L} {pc : Nat} {L : List (Option Value)} {st : List Value}
variable {own : String} {cc : ByteArray} {Ts : List Cond}
theorem tk_iconst (X : tk_X p m c s args G own cc nL Ts) {n : Int} {v : Int32} (hdg : decode cc pc = .ok (.iconst n, 1)) (hv : Int32.ofInt n = v)
    (k : tk_go p l e R s m args below meth c G dm nL cells slots Q sl (pc + 1) L (.int v :: st)) : tk_go p l e R s m args below meth c G dm nL cells slots Q sl pc L st :=
  fun H locs ls hH hl h => lv_iconst X.1.1 X.1.2.1 hdg hv (k H locs ls hH hl h)
theorem tk_bipush (X : tk_X p m c s args G own cc nL Ts) {n : Int} {v : Int32} (hdg : decode cc pc = .ok (.bipush n, 2)) (hv : (Int8.ofInt n).toInt32 = v)
    (k : tk_go p l e R s m args below meth c G dm nL cells slots Q sl (pc + 2) L (.int v :: st)) : tk_go p l e R s m args below meth c G dm nL cells slots Q sl pc L st :=
  fun H locs ls hH hl h => lv_bipush X.1.1 X.1.2.1 hdg hv (k H locs ls hH hl h)
theorem tk_sipush (X : tk_X p m c s args G own cc nL Ts) {n : Int} {v : Int32} (hdg : decode cc pc = .ok (.sipush n, 3)) (hv : (Int16.ofInt n).toInt32 = v)
    (k : tk_go p l e R s m args below meth c G dm nL cells slots Q sl (pc + 3) L (.int v :: st)) : tk_go p l e R s m args below meth c G dm nL cells slots Q sl pc L st :=
  fun H locs ls hH hl h => lv_sipush X.1.1 X.1.2.1 hdg hv (k H locs ls hH hl h)
theorem tk_iload_n (X : tk_X p m c s args G own cc nL Ts) {k4 : Fin 4} {i : Nat} {x : Int32} (hdg : decode cc pc = .ok (.iload_n k4, 1)) (hi : (k4 : Nat) = i) (hL : L[i]? = some (some (.int x)))
    (k : tk_go p l e R s m args below meth c G dm nL cells slots Q sl (pc + 1) L (.int x :: st)) : tk_go p l e R s m args below meth c G dm nL cells slots Q sl pc L st :=
  fun H locs ls hH hl h => lv_iload_n X.1.1 X.1.2.1 hdg hi (h.at hL) (k H locs ls hH hl h)
theorem tk_iload (X : tk_X p m c s args G own cc nL Ts) {i : Nat} {x : Int32} (hdg : decode cc pc = .ok (.iload i, 2)) (hL : L[i]? = some (some (.int x)))
    (k : tk_go p l e R s m args below meth c G dm nL cells slots Q sl (pc + 2) L (.int x :: st)) : tk_go p l e R s m args below meth c G dm nL cells slots Q sl pc L st :=
  fun H locs ls hH hl h => lv_iload X.1.1 X.1.2.1 hdg (h.at hL) (k H locs ls hH hl h)
theorem tk_aload_n (X : tk_X p m c s args G own cc nL Ts) {k4 : Fin 4} {i : Nat} {x : Nat} (hdg : decode cc pc = .ok (.aload_n k4, 1)) (hi : (k4 : Nat) = i) (hL : L[i]? = some (some (.ref x)))
    (k : tk_go p l e R s m args below meth c G dm nL cells slots Q sl (pc + 1) L (.ref x :: st)) : tk_go p l e R s m args below meth c G dm nL cells slots Q sl pc L st :=
  fun H locs ls hH hl h => lv_aload_n X.1.1 X.1.2.1 hdg hi (h.at hL) (k H locs ls hH hl h)
theorem tk_aload (X : tk_X p m c s args G own cc nL Ts) {i : Nat} {x : Nat} (hdg : decode cc pc = .ok (.aload i, 2)) (hL : L[i]? = some (some (.ref x)))
    (k : tk_go p l e R s m args below meth c G dm nL cells slots Q sl (pc + 2) L (.ref x :: st)) : tk_go p l e R s m args below meth c G dm nL cells slots Q sl pc L st :=
  fun H locs ls hH hl h => lv_aload X.1.1 X.1.2.1 hdg (h.at hL) (k H locs ls hH hl h)
theorem tk_aload_nN (X : tk_X p m c s args G own cc nL Ts) {k4 : Fin 4} {i : Nat} (hdg : decode cc pc = .ok (.aload_n k4, 1)) (hi : (k4 : Nat) = i) (hL : L[i]? = some (some .null))
    (k : tk_go p l e R s m args below meth c G dm nL cells slots Q sl (pc + 1) L (.null :: st)) : tk_go p l e R s m args below meth c G dm nL cells slots Q sl pc L st :=
  fun H locs ls hH hl h => lv_aload_nN X.1.1 X.1.2.1 hdg hi (h.at hL) (k H locs ls hH hl h)
theorem tk_aloadN (X : tk_X p m c s args G own cc nL Ts) {i : Nat} (hdg : decode cc pc = .ok (.aload i, 2)) (hL : L[i]? = some (some .null))
    (k : tk_go p l e R s m args below meth c G dm nL cells slots Q sl (pc + 2) L (.null :: st)) : tk_go p l e R s m args below meth c G dm nL cells slots Q sl pc L st :=
  fun H locs ls hH hl h => lv_aloadN X.1.1 X.1.2.1 hdg (h.at hL) (k H locs ls hH hl h)
theorem tk_istore_n (X : tk_X p m c s args G own cc nL Ts) {k4 : Fin 4} {i : Nat} {x : Int32} {L' : List (Option Value)} (hdg : decode cc pc = .ok (.istore_n k4, 1)) (hi : (k4 : Nat) = i) (hn : i < nL) (hL : L.set i (some (.int x)) = L')
    (k : tk_go p l e R s m args below meth c G dm nL cells slots Q sl (pc + 1) L' st) : tk_go p l e R s m args below meth c G dm nL cells slots Q sl pc L (.int x :: st) :=
  fun H locs ls hH hl h => lv_istore_n X.1.1 X.1.2.1 hdg hi h.has hn rfl (fun ls' h' => k H locs ls' hH hl (hL ▸ h.set rfl h'))
theorem tk_istore (X : tk_X p m c s args G own cc nL Ts) {i : Nat} {x : Int32} {L' : List (Option Value)} (hdg : decode cc pc = .ok (.istore i, 2)) (hn : i < nL) (hL : L.set i (some (.int x)) = L')
    (k : tk_go p l e R s m args below meth c G dm nL cells slots Q sl (pc + 2) L' st) : tk_go p l e R s m args below meth c G dm nL cells slots Q sl pc L (.int x :: st) :=
  fun H locs ls hH hl h => lv_istore X.1.1 X.1.2.1 hdg h.has hn rfl (fun ls' h' => k H locs ls' hH hl (hL ▸ h.set rfl h'))
theorem tk_astore_n (X : tk_X p m c s args G own cc nL Ts) {k4 : Fin 4} {i : Nat} {x : Nat} {L' : List (Option Value)} (hdg : decode cc pc = .ok (.astore_n k4, 1)) (hi : (k4 : Nat) = i) (hn : i < nL) (hL : L.set i (some (.ref x)) = L')
    (k : tk_go p l e R s m args below meth c G dm nL cells slots Q sl (pc + 1) L' st) : tk_go p l e R s m args below meth c G dm nL cells slots Q sl pc L (.ref x :: st) :=
  fun H locs ls hH hl h => lv_astore_n X.1.1 X.1.2.1 hdg hi h.has hn rfl (fun ls' h' => k H locs ls' hH hl (hL ▸ h.set rfl h'))
theorem tk_astore (X : tk_X p m c s args G own cc nL Ts) {i : Nat} {x : Nat} {L' : List (Option Value)} (hdg : decode cc pc = .ok (.astore i, 2)) (hn : i < nL) (hL : L.set i (some (.ref x)) = L')
    (k : tk_go p l e R s m args below meth c G dm nL cells slots Q sl (pc + 2) L' st) : tk_go p l e R s m args below meth c G dm nL cells slots Q sl pc L (.ref x :: st) :=
  fun H locs ls hH hl h => lv_astore X.1.1 X.1.2.1 hdg h.has hn rfl (fun ls' h' => k H locs ls' hH hl (hL ▸ h.set rfl h'))
theorem tk_astore_nN (X : tk_X p m c s args G own cc nL Ts) {k4 : Fin 4} {i : Nat}  {L' : List (Option Value)} (hdg : decode cc pc = .ok (.astore_n k4, 1)) (hi : (k4 : Nat) = i) (hn : i < nL) (hL : L.set i (some (.null)) = L')
    (k : tk_go p l e R s m args below meth c G dm nL cells slots Q sl (pc + 1) L' st) : tk_go p l e R s m args below meth c G dm nL cells slots Q sl pc L (.null :: st) :=
  fun H locs ls hH hl h => lv_astore_nN X.1.1 X.1.2.1 hdg hi h.has hn rfl (fun ls' h' => k H locs ls' hH hl (hL ▸ h.set rfl h'))
theorem tk_astoreN (X : tk_X p m c s args G own cc nL Ts) {i : Nat}  {L' : List (Option Value)} (hdg : decode cc pc = .ok (.astore i, 2)) (hn : i < nL) (hL : L.set i (some (.null)) = L')
    (k : tk_go p l e R s m args below meth c G dm nL cells slots Q sl (pc + 2) L' st) : tk_go p l e R s m args below meth c G dm nL cells slots Q sl pc L (.null :: st) :=
  fun H locs ls hH hl h => lv_astoreN X.1.1 X.1.2.1 hdg h.has hn rfl (fun ls' h' => k H locs ls' hH hl (hL ▸ h.set rfl h'))
theorem tk_iinc (X : tk_X p m c s args G own cc nL Ts) {i : Nat} {n : Int} {x v : Int32} {L' : List (Option Value)} (hdg : decode cc pc = .ok (.iinc i n, 3)) (hx : L[i]? = some (some (.int x))) (hw : x + Int32.ofInt n = v) (hn : i < nL) (hL : L.set i (some (.int v)) = L')
    (k : tk_go p l e R s m args below meth c G dm nL cells slots Q sl (pc + 3) L' st) : tk_go p l e R s m args below meth c G dm nL cells slots Q sl pc L st := fun H locs ls hH hl h => by
  have hm : (i, Value.int x) ∈ tk_pr 0 L := (tk_pr_mem L 0 (i, Value.int x)).mpr ⟨i, by simp, hx⟩
  obtain ⟨q, hq⟩ := List.getElem?_of_mem hm
  exact lv_iinc X.1.1 X.1.2.1 hdg h.has hq hw hn rfl (fun ls' h' => k H locs ls' hH hl (hL ▸ h.set rfl h'))
theorem tk_iadd (X : tk_X p m c s args G own cc nL Ts) {x y : Int32} (hdg : decode cc pc = .ok (.iadd, 1))
    (k : tk_go p l e R s m args below meth c G dm nL cells slots Q sl (pc + 1) L (.int (x + y) :: st)) : tk_go p l e R s m args below meth c G dm nL cells slots Q sl pc L (.int y :: .int x :: st) :=
  fun H locs ls hH hl hv => lv_iadd X.1.1 X.1.2.1 hdg (k H locs ls hH hl hv)
theorem tk_isub (X : tk_X p m c s args G own cc nL Ts) {x y : Int32} (hdg : decode cc pc = .ok (.isub, 1))
    (k : tk_go p l e R s m args below meth c G dm nL cells slots Q sl (pc + 1) L (.int (x - y) :: st)) : tk_go p l e R s m args below meth c G dm nL cells slots Q sl pc L (.int y :: .int x :: st) :=
  fun H locs ls hH hl hv => lv_isub X.1.1 X.1.2.1 hdg (k H locs ls hH hl hv)
theorem tk_imul (X : tk_X p m c s args G own cc nL Ts) {x y : Int32} (hdg : decode cc pc = .ok (.imul, 1))
    (k : tk_go p l e R s m args below meth c G dm nL cells slots Q sl (pc + 1) L (.int (x * y) :: st)) : tk_go p l e R s m args below meth c G dm nL cells slots Q sl pc L (.int y :: .int x :: st) :=
  fun H locs ls hH hl hv => lv_imul X.1.1 X.1.2.1 hdg (k H locs ls hH hl hv)
theorem tk_iand (X : tk_X p m c s args G own cc nL Ts) {x y : Int32} (hdg : decode cc pc = .ok (.iand, 1))
    (k : tk_go p l e R s m args below meth c G dm nL cells slots Q sl (pc + 1) L (.int (x &&& y) :: st)) : tk_go p l e R s m args below meth c G dm nL cells slots Q sl pc L (.int y :: .int x :: st) :=
  fun H locs ls hH hl hv => lv_iand X.1.1 X.1.2.1 hdg (k H locs ls hH hl hv)
theorem tk_ior (X : tk_X p m c s args G own cc nL Ts) {x y : Int32} (hdg : decode cc pc = .ok (.ior, 1))
    (k : tk_go p l e R s m args below meth c G dm nL cells slots Q sl (pc + 1) L (.int (x ||| y) :: st)) : tk_go p l e R s m args below meth c G dm nL cells slots Q sl pc L (.int y :: .int x :: st) :=
  fun H locs ls hH hl hv => lv_ior X.1.1 X.1.2.1 hdg (k H locs ls hH hl hv)
theorem tk_ishl (X : tk_X p m c s args G own cc nL Ts) {x y : Int32} (hdg : decode cc pc = .ok (.ishl, 1))
    (k : tk_go p l e R s m args below meth c G dm nL cells slots Q sl (pc + 1) L (.int (x <<< (y &&& 31)) :: st)) : tk_go p l e R s m args below meth c G dm nL cells slots Q sl pc L (.int y :: .int x :: st) :=
  fun H locs ls hH hl hv => lv_ishl X.1.1 X.1.2.1 hdg (k H locs ls hH hl hv)
theorem tk_ishr (X : tk_X p m c s args G own cc nL Ts) {x y : Int32} (hdg : decode cc pc = .ok (.ishr, 1))
    (k : tk_go p l e R s m args below meth c G dm nL cells slots Q sl (pc + 1) L (.int (x >>> (y &&& 31)) :: st)) : tk_go p l e R s m args below meth c G dm nL cells slots Q sl pc L (.int y :: .int x :: st) :=
  fun H locs ls hH hl hv => lv_ishr X.1.1 X.1.2.1 hdg (k H locs ls hH hl hv)
theorem tk_idiv (X : tk_X p m c s args G own cc nL Ts) {x y : Int32} (hdg : decode cc pc = .ok (.idiv, 1)) (hne : ¬ y = 0)
    (k : tk_go p l e R s m args below meth c G dm nL cells slots Q sl (pc + 1) L (.int (x / y) :: st)) : tk_go p l e R s m args below meth c G dm nL cells slots Q sl pc L (.int y :: .int x :: st) :=
  fun H locs ls hH hl h => lv_idiv X.1.1 X.1.2.1 hdg hne (k H locs ls hH hl h)
theorem tk_irem (X : tk_X p m c s args G own cc nL Ts) {x y : Int32} (hdg : decode cc pc = .ok (.irem, 1)) (hne : ¬ y = 0)
    (k : tk_go p l e R s m args below meth c G dm nL cells slots Q sl (pc + 1) L (.int (x - x / y * y) :: st)) : tk_go p l e R s m args below meth c G dm nL cells slots Q sl pc L (.int y :: .int x :: st) :=
  fun H locs ls hH hl h => lv_irem X.1.1 X.1.2.1 hdg hne (k H locs ls hH hl h)
theorem tk_iushr (X : tk_X p m c s args G own cc nL Ts) {x y v : Int32} (hdg : decode cc pc = .ok (.iushr, 1)) (hv : (x.toUInt32 >>> (y.toUInt32 &&& Int32.toUInt32 31)).toInt32 = v)
    (k : tk_go p l e R s m args below meth c G dm nL cells slots Q sl (pc + 1) L (.int v :: st)) : tk_go p l e R s m args below meth c G dm nL cells slots Q sl pc L (.int y :: .int x :: st) :=
  fun H locs ls hH hl h => lv_iushr X.1.1 X.1.2.1 hdg hv (k H locs ls hH hl h)
theorem tk_i2l (X : tk_X p m c s args G own cc nL Ts) {x : Int32} {v : Int64} (hdg : decode cc pc = .ok (.i2l, 1)) (hv : x.toInt64 = v)
    (k : tk_go p l e R s m args below meth c G dm nL cells slots Q sl (pc + 1) L (.long v :: st)) : tk_go p l e R s m args below meth c G dm nL cells slots Q sl pc L (.int x :: st) :=
  fun H locs ls hH hl h => lv_i2l X.1.1 X.1.2.1 hdg hv (k H locs ls hH hl h)
theorem tk_dup (X : tk_X p m c s args G own cc nL Ts) {va : Value} (hva : va.category = 1) (hdg : decode cc pc = .ok (.dup, 1))
    (k : tk_go p l e R s m args below meth c G dm nL cells slots Q sl (pc + 1) L (va :: va :: st)) : tk_go p l e R s m args below meth c G dm nL cells slots Q sl pc L (va :: st) :=
  fun H locs ls hH hl hv => lv_dup X.1.1 X.1.2.1 hdg hva (k H locs ls hH hl hv)
theorem tk_pop (X : tk_X p m c s args G own cc nL Ts) {va : Value} (hva : va.category = 1) (hdg : decode cc pc = .ok (.pop, 1))
    (k : tk_go p l e R s m args below meth c G dm nL cells slots Q sl (pc + 1) L (st)) : tk_go p l e R s m args below meth c G dm nL cells slots Q sl pc L (va :: st) :=
  fun H locs ls hH hl hv => lv_pop X.1.1 X.1.2.1 hdg hva (k H locs ls hH hl hv)
theorem tk_dup_x1 (X : tk_X p m c s args G own cc nL Ts) {va vb : Value} (hva : va.category = 1) (hvb : vb.category = 1) (hdg : decode cc pc = .ok (.dup_x1, 1))
    (k : tk_go p l e R s m args below meth c G dm nL cells slots Q sl (pc + 1) L (va :: vb :: va :: st)) : tk_go p l e R s m args below meth c G dm nL cells slots Q sl pc L (va :: vb :: st) :=
  fun H locs ls hH hl hv => lv_dup_x1 X.1.1 X.1.2.1 hdg hva hvb (k H locs ls hH hl hv)
theorem tk_dup_x2 (X : tk_X p m c s args G own cc nL Ts) {va vb vd : Value} (hva : va.category = 1) (hvb : vb.category = 1) (hvd : vd.category = 1) (hdg : decode cc pc = .ok (.dup_x2, 1))
    (k : tk_go p l e R s m args below meth c G dm nL cells slots Q sl (pc + 1) L (va :: vb :: vd :: va :: st)) : tk_go p l e R s m args below meth c G dm nL cells slots Q sl pc L (va :: vb :: vd :: st) :=
  fun H locs ls hH hl hv => lv_dup_x2 X.1.1 X.1.2.1 hdg hva hvb hvd (k H locs ls hH hl hv)
theorem tk_dup2 (X : tk_X p m c s args G own cc nL Ts) {va vb : Value} (hva : va.category = 1) (hvb : vb.category = 1) (hdg : decode cc pc = .ok (.dup2, 1))
    (k : tk_go p l e R s m args below meth c G dm nL cells slots Q sl (pc + 1) L (va :: vb :: va :: vb :: st)) : tk_go p l e R s m args below meth c G dm nL cells slots Q sl pc L (va :: vb :: st) :=
  fun H locs ls hH hl hv => lv_dup2_11 X.1.1 X.1.2.1 hdg hva hvb (k H locs ls hH hl hv)
theorem tk_null (X : tk_X p m c s args G own cc nL Ts)  (hdg : decode cc pc = .ok (.aconst_null, 1))
    (k : tk_go p l e R s m args below meth c G dm nL cells slots Q sl (pc + 1) L (.null :: st)) : tk_go p l e R s m args below meth c G dm nL cells slots Q sl pc L (st) :=
  fun H locs ls hH hl hv => lv_null X.1.1 X.1.2.1 hdg (k H locs ls hH hl hv)
theorem tk_if_eq (X : tk_X p m c s args G own cc nL Ts) {x : Int32} {off : Int} {tgt : Nat} (hdg : decode cc pc = .ok (.ifCond .eq off, 3)) (ht : (pc : Int) + off = (tgt : Int))
    (kt : x = 0 → tk_go p l e R s m args below meth c G dm nL cells slots Q sl tgt L st) (kf : ¬ x = 0 → tk_go p l e R s m args below meth c G dm nL cells slots Q sl (pc + 3) L st) : tk_go p l e R s m args below meth c G dm nL cells slots Q sl pc L (.int x :: st) :=
  fun H locs ls hH hl h => lv_if_eq X.1.1 X.1.2.1 hdg ht (fun z => kt z H locs ls hH hl h) (fun z => kf z H locs ls hH hl h)
theorem tk_icmp_eq (X : tk_X p m c s args G own cc nL Ts) {x y : Int32} {off : Int} {tgt : Nat} (hdg : decode cc pc = .ok (.if_icmp .eq off, 3)) (ht : (pc : Int) + off = (tgt : Int))
    (kt : x = y → tk_go p l e R s m args below meth c G dm nL cells slots Q sl tgt L st) (kf : ¬ x = y → tk_go p l e R s m args below meth c G dm nL cells slots Q sl (pc + 3) L st) : tk_go p l e R s m args below meth c G dm nL cells slots Q sl pc L (.int y :: .int x :: st) :=
  fun H locs ls hH hl h => lv_icmp_eq X.1.1 X.1.2.1 hdg ht (fun z => kt z H locs ls hH hl h) (fun z => kf z H locs ls hH hl h)
theorem tk_if_ne (X : tk_X p m c s args G own cc nL Ts) {x : Int32} {off : Int} {tgt : Nat} (hdg : decode cc pc = .ok (.ifCond .ne off, 3)) (ht : (pc : Int) + off = (tgt : Int))
    (kt : ¬ x = 0 → tk_go p l e R s m args below meth c G dm nL cells slots Q sl tgt L st) (kf : x = 0 → tk_go p l e R s m args below meth c G dm nL cells slots Q sl (pc + 3) L st) : tk_go p l e R s m args below meth c G dm nL cells slots Q sl pc L (.int x :: st) :=
  fun H locs ls hH hl h => lv_if_ne X.1.1 X.1.2.1 hdg ht (fun z => kt z H locs ls hH hl h) (fun z => kf z H locs ls hH hl h)
theorem tk_icmp_ne (X : tk_X p m c s args G own cc nL Ts) {x y : Int32} {off : Int} {tgt : Nat} (hdg : decode cc pc = .ok (.if_icmp .ne off, 3)) (ht : (pc : Int) + off = (tgt : Int))
    (kt : ¬ x = y → tk_go p l e R s m args below meth c G dm nL cells slots Q sl tgt L st) (kf : x = y → tk_go p l e R s m args below meth c G dm nL cells slots Q sl (pc + 3) L st) : tk_go p l e R s m args below meth c G dm nL cells slots Q sl pc L (.int y :: .int x :: st) :=
  fun H locs ls hH hl h => lv_icmp_ne X.1.1 X.1.2.1 hdg ht (fun z => kt z H locs ls hH hl h) (fun z => kf z H locs ls hH hl h)
theorem tk_if_lt (X : tk_X p m c s args G own cc nL Ts) {x : Int32} {off : Int} {tgt : Nat} (hdg : decode cc pc = .ok (.ifCond .lt off, 3)) (ht : (pc : Int) + off = (tgt : Int))
    (kt : x < 0 → tk_go p l e R s m args below meth c G dm nL cells slots Q sl tgt L st) (kf : ¬ x < 0 → tk_go p l e R s m args below meth c G dm nL cells slots Q sl (pc + 3) L st) : tk_go p l e R s m args below meth c G dm nL cells slots Q sl pc L (.int x :: st) :=
  fun H locs ls hH hl h => lv_if_lt X.1.1 X.1.2.1 hdg ht (fun z => kt z H locs ls hH hl h) (fun z => kf z H locs ls hH hl h)
theorem tk_icmp_lt (X : tk_X p m c s args G own cc nL Ts) {x y : Int32} {off : Int} {tgt : Nat} (hdg : decode cc pc = .ok (.if_icmp .lt off, 3)) (ht : (pc : Int) + off = (tgt : Int))
    (kt : x < y → tk_go p l e R s m args below meth c G dm nL cells slots Q sl tgt L st) (kf : ¬ x < y → tk_go p l e R s m args below meth c G dm nL cells slots Q sl (pc + 3) L st) : tk_go p l e R s m args below meth c G dm nL cells slots Q sl pc L (.int y :: .int x :: st) :=
  fun H locs ls hH hl h => lv_icmp_lt X.1.1 X.1.2.1 hdg ht (fun z => kt z H locs ls hH hl h) (fun z => kf z H locs ls hH hl h)
theorem tk_if_ge (X : tk_X p m c s args G own cc nL Ts) {x : Int32} {off : Int} {tgt : Nat} (hdg : decode cc pc = .ok (.ifCond .ge off, 3)) (ht : (pc : Int) + off = (tgt : Int))
    (kt : 0 ≤ x → tk_go p l e R s m args below meth c G dm nL cells slots Q sl tgt L st) (kf : ¬ 0 ≤ x → tk_go p l e R s m args below meth c G dm nL cells slots Q sl (pc + 3) L st) : tk_go p l e R s m args below meth c G dm nL cells slots Q sl pc L (.int x :: st) :=
  fun H locs ls hH hl h => lv_if_ge X.1.1 X.1.2.1 hdg ht (fun z => kt z H locs ls hH hl h) (fun z => kf z H locs ls hH hl h)
theorem tk_icmp_ge (X : tk_X p m c s args G own cc nL Ts) {x y : Int32} {off : Int} {tgt : Nat} (hdg : decode cc pc = .ok (.if_icmp .ge off, 3)) (ht : (pc : Int) + off = (tgt : Int))
    (kt : y ≤ x → tk_go p l e R s m args below meth c G dm nL cells slots Q sl tgt L st) (kf : ¬ y ≤ x → tk_go p l e R s m args below meth c G dm nL cells slots Q sl (pc + 3) L st) : tk_go p l e R s m args below meth c G dm nL cells slots Q sl pc L (.int y :: .int x :: st) :=
  fun H locs ls hH hl h => lv_icmp_ge X.1.1 X.1.2.1 hdg ht (fun z => kt z H locs ls hH hl h) (fun z => kf z H locs ls hH hl h)
theorem tk_if_gt (X : tk_X p m c s args G own cc nL Ts) {x : Int32} {off : Int} {tgt : Nat} (hdg : decode cc pc = .ok (.ifCond .gt off, 3)) (ht : (pc : Int) + off = (tgt : Int))
    (kt : 0 < x → tk_go p l e R s m args below meth c G dm nL cells slots Q sl tgt L st) (kf : ¬ 0 < x → tk_go p l e R s m args below meth c G dm nL cells slots Q sl (pc + 3) L st) : tk_go p l e R s m args below meth c G dm nL cells slots Q sl pc L (.int x :: st) :=
  fun H locs ls hH hl h => lv_if_gt X.1.1 X.1.2.1 hdg ht (fun z => kt z H locs ls hH hl h) (fun z => kf z H locs ls hH hl h)
theorem tk_icmp_gt (X : tk_X p m c s args G own cc nL Ts) {x y : Int32} {off : Int} {tgt : Nat} (hdg : decode cc pc = .ok (.if_icmp .gt off, 3)) (ht : (pc : Int) + off = (tgt : Int))
    (kt : y < x → tk_go p l e R s m args below meth c G dm nL cells slots Q sl tgt L st) (kf : ¬ y < x → tk_go p l e R s m args below meth c G dm nL cells slots Q sl (pc + 3) L st) : tk_go p l e R s m args below meth c G dm nL cells slots Q sl pc L (.int y :: .int x :: st) :=
  fun H locs ls hH hl h => lv_icmp_gt X.1.1 X.1.2.1 hdg ht (fun z => kt z H locs ls hH hl h) (fun z => kf z H locs ls hH hl h)
theorem tk_if_le (X : tk_X p m c s args G own cc nL Ts) {x : Int32} {off : Int} {tgt : Nat} (hdg : decode cc pc = .ok (.ifCond .le off, 3)) (ht : (pc : Int) + off = (tgt : Int))
    (kt : x ≤ 0 → tk_go p l e R s m args below meth c G dm nL cells slots Q sl tgt L st) (kf : ¬ x ≤ 0 → tk_go p l e R s m args below meth c G dm nL cells slots Q sl (pc + 3) L st) : tk_go p l e R s m args below meth c G dm nL cells slots Q sl pc L (.int x :: st) :=
  fun H locs ls hH hl h => lv_if_le X.1.1 X.1.2.1 hdg ht (fun z => kt z H locs ls hH hl h) (fun z => kf z H locs ls hH hl h)
theorem tk_icmp_le (X : tk_X p m c s args G own cc nL Ts) {x y : Int32} {off : Int} {tgt : Nat} (hdg : decode cc pc = .ok (.if_icmp .le off, 3)) (ht : (pc : Int) + off = (tgt : Int))
    (kt : x ≤ y → tk_go p l e R s m args below meth c G dm nL cells slots Q sl tgt L st) (kf : ¬ x ≤ y → tk_go p l e R s m args below meth c G dm nL cells slots Q sl (pc + 3) L st) : tk_go p l e R s m args below meth c G dm nL cells slots Q sl pc L (.int y :: .int x :: st) :=
  fun H locs ls hH hl h => lv_icmp_le X.1.1 X.1.2.1 hdg ht (fun z => kt z H locs ls hH hl h) (fun z => kf z H locs ls hH hl h)
theorem tk_goto (X : tk_X p m c s args G own cc nL Ts) {off : Int} {tgt : Nat} (hdg : decode cc pc = .ok (.goto off, 3)) (ht : (pc : Int) + off = (tgt : Int)) (k : tk_go p l e R s m args below meth c G dm nL cells slots Q sl tgt L st) : tk_go p l e R s m args below meth c G dm nL cells slots Q sl pc L st :=
  fun H locs ls hH hl h => lv_goto X.1.1 X.1.2.1 hdg ht (k H locs ls hH hl h)
theorem tk_ifnonnull (X : tk_X p m c s args G own cc nL Ts) {x : Nat} {off : Int} {tgt : Nat} (hdg : decode cc pc = .ok (.ifnonnull off, 3)) (ht : (pc : Int) + off = (tgt : Int)) (k : tk_go p l e R s m args below meth c G dm nL cells slots Q sl tgt L st) : tk_go p l e R s m args below meth c G dm nL cells slots Q sl pc L (.ref x :: st) :=
  fun H locs ls hH hl h => lv_ifnonnull X.1.1 X.1.2.1 hdg ht (k H locs ls hH hl h)
theorem tk_ifnull (X : tk_X p m c s args G own cc nL Ts) {x : Nat} {off : Int} (hdg : decode cc pc = .ok (.ifnull off, 3)) (k : tk_go p l e R s m args below meth c G dm nL cells slots Q sl (pc + 3) L st) : tk_go p l e R s m args below meth c G dm nL cells slots Q sl pc L (.ref x :: st) :=
  fun H locs ls hH hl h => lv_ifnull X.1.1 X.1.2.1 hdg (k H locs ls hH hl h)
theorem tk_ifnullN (X : tk_X p m c s args G own cc nL Ts) {off : Int} {tgt : Nat} (hdg : decode cc pc = .ok (.ifnull off, 3)) (ht : (pc : Int) + off = (tgt : Int)) (k : tk_go p l e R s m args below meth c G dm nL cells slots Q sl tgt L st) : tk_go p l e R s m args below meth c G dm nL cells slots Q sl pc L (.null :: st) :=
  fun H locs ls hH hl h => lv_ifnullN X.1.1 X.1.2.1 hdg ht (k H locs ls hH hl h)
theorem tk_ifnonnullN (X : tk_X p m c s args G own cc nL Ts) {off : Int} (hdg : decode cc pc = .ok (.ifnonnull off, 3)) (k : tk_go p l e R s m args below meth c G dm nL cells slots Q sl (pc + 3) L st) : tk_go p l e R s m args below meth c G dm nL cells slots Q sl pc L (.null :: st) :=
  fun H locs ls hH hl h => lv_ifnonnullN X.1.1 X.1.2.1 hdg (k H locs ls hH hl h)
theorem tk_tableOut (X : tk_X p m c s args G own cc nL Ts) {dflt lo hi : Int} {offs : Array Int} {len : Nat} {x : Int32} {tgt : Nat} (hdg : decode cc pc = .ok (.tableswitch dflt lo hi offs, len)) (h : x.toInt < lo ∨ hi < x.toInt) (ht : (pc : Int) + dflt = (tgt : Int)) (k : tk_go p l e R s m args below meth c G dm nL cells slots Q sl tgt L st) : tk_go p l e R s m args below meth c G dm nL cells slots Q sl pc L (.int x :: st) :=
  fun H locs ls hH hl hv => lv_tableOut X.1.1 X.1.2.1 hdg h ht (k H locs ls hH hl hv)
theorem tk_tableIn (X : tk_X p m c s args G own cc nL Ts) {dflt lo hi : Int} {offs : Array Int} {len : Nat} {x : Int32} {off : Int} {tgt : Nat} (hdg : decode cc pc = .ok (.tableswitch dflt lo hi offs, len)) (h1 : ¬ x.toInt < lo) (h2 : ¬ hi < x.toInt) (ho : offs[(x.toInt - lo).toNat]? = some off) (ht : (pc : Int) + off = (tgt : Int)) (k : tk_go p l e R s m args below meth c G dm nL cells slots Q sl tgt L st) : tk_go p l e R s m args below meth c G dm nL cells slots Q sl pc L (.int x :: st) :=
  fun H locs ls hH hl hv => lv_tableIn X.1.1 X.1.2.1 hdg h1 h2 ho ht (k H locs ls hH hl hv)
theorem tk_lookup (X : tk_X p m c s args G own cc nL Ts) {dflt : Int} {ps : Array (Int × Int)} {len : Nat} {x : Int32} {off : Int} {tgt : Nat} (hdg : decode cc pc = .ok (.lookupswitch dflt ps, len)) (hp : (ps.toList.zip (ps.toList.drop 1)).all (fun (a, next) => a.1 < next.1) = true) (ho : Op.lookupswitch.offset ps.toList dflt x.toInt = off) (ht : (pc : Int) + off = (tgt : Int)) (k : tk_go p l e R s m args below meth c G dm nL cells slots Q sl tgt L st) : tk_go p l e R s m args below meth c G dm nL cells slots Q sl pc L (.int x :: st) :=
  fun H locs ls hH hl hv => lv_lookup X.1.1 X.1.2.1 hdg hp ho ht (k H locs ls hH hl hv)
theorem tk_eq {sl' : tk_L} {pc' : Nat} {L' : List (Option Value)} {st' : List Value} (h1 : sl = sl') (h2 : pc = pc') (h3 : L = L') (h4 : st = st') (k : tk_go p l e R s m args below meth c G dm nL cells slots Q sl' pc' L' st') : tk_go p l e R s m args below meth c G dm nL cells slots Q sl pc L st := by
  subst h1; subst h2; subst h3; subst h4; exact k
theorem tk_dom {dm' : tk_W} (h : ∀ k, dm'.1 k → dm.1 k) (hz : dm'.2 = none ∨ dm'.2 = dm.2) (k : tk_go p l e R s m args below meth c G dm' nL cells slots Q sl pc L st) : tk_go p l e R s m args below meth c G dm nL cells slots Q sl pc L st :=
  fun H locs ls hH hl hv => k H locs ls (hH.dom h hz) hl hv
theorem tk_congr {sl' : tk_L} (h : ∀ k, dm.1 k → sl k = sl' k) (k : tk_go p l e R s m args below meth c G dm nL cells slots Q sl' pc L st) : tk_go p l e R s m args below meth c G dm nL cells slots Q sl pc L st :=
  fun H locs ls hH hl hv => k H locs ls (hH.congr h) hl hv
theorem tk_widen {k n : Nat} (h1 : cells ≤ k) (h2 : slots ≤ n) (kk : tk_go p l e R s m args below meth c G dm nL k n Q sl pc L st) : tk_go p l e R s m args below meth c G dm nL cells slots Q sl pc L st :=
  fun H locs ls hH hl hv => W.widen h1 h2 (kk H locs ls hH hl hv)
theorem tk_get (X : tk_X p m c s args G own cc nL Ts) {k : tk_K} (hk : dm.1 k) {ci : Nat} (hkd : tk_kd G k = .inl ci) {C : String} {T : u_T} {N : Nat} (hc : G.2.1[ci]? = some (C, T, N)) (hin : ∀ w ∈ u_ws C T N, w ∈ Ts) (j : Nat) (hj : j < N) {index : Nat} (hlink : Cond.fieldLink own index (T j).1 (T j).2.1 (T j).2.2.1 ∈ Ts) {v : Value} (hv : sl k j = v) (hdg : decode cc pc = .ok (.getfield index, 3))
    (kk : tk_go p l e R s m args below meth c G dm nL cells slots Q sl (pc + 3) L (v :: st)) : tk_go p l e R s m args below meth c G dm nL cells slots Q sl pc L (.ref (tk_ad G k) :: st) := fun H locs ls hH hl h => by
  obtain ⟨r, h1, cell, q1, q2, q3, q4⟩ := (hH.1 k hk).2.obj hkd
  have hr : r = (C, T, N) := Option.some.inj (h1.symm.trans hc)
  subst hr
  obtain ⟨hS, hfc, kC, hkC, hkind⟩ := X.2.1.1.1 ci _ hc
  obtain ⟨cf, kf, fi, f, hi, hsl⟩ := hS j hj
  refine W.getf X.1.1 X.1.2.1 X.1.2.2.2.1 (X.1.2.2.2.2 _ hlink) hi (u_facts hfc hkC (u_lays X.1.2.2.2.2 hin hj) hi).1 q1 (by rw [q3]; exact fun h => by cases h) (v := v) ?_ rfl rfl hdg (kk H locs ls hH hl h)
  rw [hsl, q4 j hj, hv]
theorem tk_getN (X : tk_X p m c s args G own cc nL Ts) {k : tk_K} (hk : dm.1 k) {ci : Nat} (hkd : tk_kd G k = .inl ci) {C host : String} {T : u_T} {N : Nat} (hc : G.2.1[ci]? = some (C, T, N)) (hin : ∀ w ∈ u_ws C T N, w ∈ Ts) (j : Nat) (hj : j < N) {index : Nat} (hlink : Cond.fieldLinkNest own index (T j).1 (T j).2.1 (T j).2.2.1 host ∈ tk_nw G) {v : Value} (hv : sl k j = v) (hdg : decode cc pc = .ok (.getfield index, 3))
    (kk : tk_go p l e R s m args below meth c G dm nL cells slots Q sl (pc + 3) L (v :: st)) : tk_go p l e R s m args below meth c G dm nL cells slots Q sl pc L (.ref (tk_ad G k) :: st) := fun H locs ls hH hl h => by
  obtain ⟨r, h1, cell, q1, q2, q3, q4⟩ := (hH.1 k hk).2.obj hkd
  have hr : r = (C, T, N) := Option.some.inj (h1.symm.trans hc)
  subst hr
  obtain ⟨hS, hfc, kC, hkC, hkind⟩ := X.2.1.1.1 ci _ hc
  obtain ⟨cf, kf, fi, f, hi, hsl⟩ := hS j hj
  refine va_Wgetf X.1.1 X.1.2.1 X.1.2.2.2.1 (va_Nw.use rfl (X.2.1.2 _ hlink).2) hi (u_facts hfc hkC (u_lays X.1.2.2.2.2 hin hj) hi).1 q1 (by rw [q3]; exact fun h => by cases h) (v := v) ?_ rfl rfl hdg (kk H locs ls hH hl h)
  rw [hsl, q4 j hj, hv]
theorem tk_apart (X : tk_X p m c s args G own cc nL Ts) {ci : Nat} {C : String} {T : u_T} {N : Nat} (hc : G.2.1[ci]? = some (C, T, N)) (hin : ∀ w ∈ u_ws C T N, w ∈ Ts) (ty : Nat → FieldType) (hty : ∀ k, k < N → parseFieldDescriptor (T k).2.2.1 = some (ty k)) (hnm : ∀ a, a < N → ∀ b, b < N → a ≠ b → (T a).2.1 ≠ (T b).2.1) : ∀ x y, x < N → y < N → x ≠ y → (G.1.2 ci) x ≠ (G.1.2 ci) y :=
  va_apart (own := own) X.1.2.2.2.2 hin ty hty hnm X.2.1.1 hc
theorem tk_put (X : tk_X p m c s args G own cc nL Ts) {k : tk_K} (hk : dm.1 k) {ci : Nat} (hkd : tk_kd G k = .inl ci) {C : String} {T : u_T} {N : Nat} (hc : G.2.1[ci]? = some (C, T, N)) (hin : ∀ w ∈ u_ws C T N, w ∈ Ts) (ty0 : Nat → FieldType) (hty : ∀ k, k < N → parseFieldDescriptor (T k).2.2.1 = some (ty0 k)) (hnm : ∀ a, a < N → ∀ b, b < N → a ≠ b → (T a).2.1 ≠ (T b).2.1) (j : Nat) (hj : j < N) {index : Nat} (hlink : Cond.fieldLink own index (T j).1 (T j).2.1 (T j).2.2.1 ∈ Ts) (hfin : (T j).2.2.2 = false) {v : Value} (hn : narrow (ty0 j) v = v) (hfit : fits (ty0 j) v = true) (hdg : decode cc pc = .ok (.putfield index, 3))
    (kk : tk_go p l e R s m args below meth c G dm nL cells slots Q (tk_up sl k j v) (pc + 3) L st) : tk_go p l e R s m args below meth c G dm nL cells slots Q sl pc L (v :: .ref (tk_ad G k) :: st) := fun H locs ls hH hl h => by
  have hap := tk_apart X hc hin ty0 hty hnm
  obtain ⟨r, h1, cell, q1, q2, q3, q4⟩ := (hH.1 k hk).2.obj hkd
  have hr : r = (C, T, N) := Option.some.inj (h1.symm.trans hc)
  subst hr
  obtain ⟨hS, hfc, kC, hkC, hkind⟩ := X.2.1.1.1 ci _ hc
  obtain ⟨cf, kf, fi, f, hi, hsl⟩ := hS j hj
  have hlay := X.1.2.2.2.2 _ (hin _ (u_in_lay hj))
  unfold u_lay at hlay
  rw [if_neg (by rw [hfin]; decide)] at hlay
  have hst := (u_facts hfc hkC (u_lays X.1.2.2.2.2 hin hj) hi).1
  have h6 := u_store hfc hkC hkind hlay hi (hty j hj) hn hfit
  refine W.putK X.1.1 X.1.2.1 (f := f) ⟨X.1.2.2.2.1, X.1.2.2.2.2 _ hlink, ⟨_, _, _, hi⟩, hst⟩ (by rw [q2]; exact h6) q1 q3 (by rw [hsl]; exact k2_hasslot (q4 j hj)) rfl rfl hdg fun H' e1 e2 e3 => ?_
  rw [hsl] at e1 ⊢
  refine kk H' _ ls (hH.put X.2.2 hk (fun k' h' => tk_up_ne sl j v h') (tk_at.ofObj hkd ⟨_, hc, ?_⟩) e2 e3) (fun q hq => ?_) h
  · rw [tk_up_self]
    exact ⟨_, e1, q2, q3, t_set q4 hap hj v⟩
  · rcases List.mem_append.mp hq with h' | h'
    · exact hl q h'
    · rw [List.mem_singleton.mp h']
      exact X.2.2.1 k (hH.1 k hk).1
theorem tk_putN (X : tk_X p m c s args G own cc nL Ts) {k : tk_K} (hk : dm.1 k) {ci : Nat} (hkd : tk_kd G k = .inl ci) {C host : String} {T : u_T} {N : Nat} (hc : G.2.1[ci]? = some (C, T, N)) (hin : ∀ w ∈ u_ws C T N, w ∈ Ts) (ty0 : Nat → FieldType) (hty : ∀ k, k < N → parseFieldDescriptor (T k).2.2.1 = some (ty0 k)) (hnm : ∀ a, a < N → ∀ b, b < N → a ≠ b → (T a).2.1 ≠ (T b).2.1) (j : Nat) (hj : j < N) {index : Nat} (hlink : Cond.fieldLinkNest own index (T j).1 (T j).2.1 (T j).2.2.1 host ∈ tk_nw G) (hfin : (T j).2.2.2 = false) {v : Value} (hn : narrow (ty0 j) v = v) (hfit : fits (ty0 j) v = true) (hdg : decode cc pc = .ok (.putfield index, 3))
    (kk : tk_go p l e R s m args below meth c G dm nL cells slots Q (tk_up sl k j v) (pc + 3) L st) : tk_go p l e R s m args below meth c G dm nL cells slots Q sl pc L (v :: .ref (tk_ad G k) :: st) := fun H locs ls hH hl h => by
  have hap := tk_apart X hc hin ty0 hty hnm
  obtain ⟨r, h1, cell, q1, q2, q3, q4⟩ := (hH.1 k hk).2.obj hkd
  have hr : r = (C, T, N) := Option.some.inj (h1.symm.trans hc)
  subst hr
  obtain ⟨hS, hfc, kC, hkC, hkind⟩ := X.2.1.1.1 ci _ hc
  obtain ⟨cf, kf, fi, f, hi, hsl⟩ := hS j hj
  have hlay := X.1.2.2.2.2 _ (hin _ (u_in_lay hj))
  unfold u_lay at hlay
  rw [if_neg (by rw [hfin]; decide)] at hlay
  have hst := (u_facts hfc hkC (u_lays X.1.2.2.2.2 hin hj) hi).1
  have h6 := u_store hfc hkC hkind hlay hi (hty j hj) hn hfit
  refine va_WputK X.1.1 X.1.2.1 (f := f) X.1.2.2.2.1 (va_Nw.use rfl (X.2.1.2 _ hlink).2) hi hst (by rw [q2]; exact h6) q1 q3 (by rw [hsl]; exact k2_hasslot (q4 j hj)) rfl rfl hdg fun H' e1 e2 e3 => ?_
  rw [hsl] at e1 ⊢
  refine kk H' _ ls (hH.put X.2.2 hk (fun k' h' => tk_up_ne sl j v h') (tk_at.ofObj hkd ⟨_, hc, ?_⟩) e2 e3) (fun q hq => ?_) h
  · rw [tk_up_self]
    exact ⟨_, e1, q2, q3, t_set q4 hap hj v⟩
  · rcases List.mem_append.mp hq with h' | h'
    · exact hl q h'
    · rw [List.mem_singleton.mp h']
      exact X.2.2.1 k (hH.1 k hk).1
theorem tk_putF (X : tk_X p m c s args G own cc nL Ts) (hin2 : meth.name = "<init>") {k : tk_K} (hk : dm.1 k) {ci : Nat} (hkd : tk_kd G k = .inl ci) {C : String} {T : u_T} {N : Nat} (hc : G.2.1[ci]? = some (C, T, N)) (hin : ∀ w ∈ u_ws C T N, w ∈ Ts) (ty0 : Nat → FieldType) (hty : ∀ k, k < N → parseFieldDescriptor (T k).2.2.1 = some (ty0 k)) (hnm : ∀ a, a < N → ∀ b, b < N → a ≠ b → (T a).2.1 ≠ (T b).2.1) (j : Nat) (hj : j < N) {index : Nat} (hlink : Cond.fieldLink own index (T j).1 (T j).2.1 (T j).2.2.1 ∈ Ts) (hfin : (T j).2.2.2 = true) (hdecl : (T j).1 = own) {v : Value} (hn : narrow (ty0 j) v = v) (hfit : fits (ty0 j) v = true) (hdg : decode cc pc = .ok (.putfield index, 3))
    (kk : tk_go p l e R s m args below meth c G dm nL cells slots Q (tk_up sl k j v) (pc + 3) L st) : tk_go p l e R s m args below meth c G dm nL cells slots Q sl pc L (v :: .ref (tk_ad G k) :: st) := fun H locs ls hH hl h => by
  have hap := tk_apart X hc hin ty0 hty hnm
  obtain ⟨r, h1, cell, q1, q2, q3, q4⟩ := (hH.1 k hk).2.obj hkd
  have hr : r = (C, T, N) := Option.some.inj (h1.symm.trans hc)
  subst hr
  obtain ⟨hS, hfc, kC, hkC, hkind⟩ := X.2.1.1.1 ci _ hc
  obtain ⟨cf, kf, fi, f, hi, hsl⟩ := hS j hj
  have hlay := X.1.2.2.2.2 _ (hin _ (u_in_lay hj))
  unfold u_lay at hlay
  rw [if_pos hfin] at hlay
  have hst := (u_facts hfc hkC (u_lays X.1.2.2.2.2 hin hj) hi).1
  have hcf : m.cls = cf := by
    obtain ⟨_, _, c', _, _, _, -, -, hf', -, -, -, hown2, -⟩ := Cond.laysFinal_spec hlay
    have e1 : c' = cf := by have := hi.symm.trans hf'; simp at this; exact this.1.symm
    rw [hdecl] at hown2
    rw [← e1]; exact Option.some.inj (X.1.2.2.2.1.symm.trans hown2)
  have h6 := u_fits hfc hkC hkind (Or.inr hlay) hi (hty j hj) hn hfit
  refine W.putFinK X.1.1 X.1.2.1 X.1.2.2.2.1 (X.1.2.2.2.2 _ hlink) hi hst hcf hin2 (by rw [q2]; exact h6) q1 q3 (by rw [hsl]; exact k2_hasslot (q4 j hj)) rfl rfl hdg fun H' e1 e2 e3 => ?_
  rw [hsl] at e1 ⊢
  refine kk H' _ ls (hH.put X.2.2 hk (fun k' h' => tk_up_ne sl j v h') (tk_at.ofObj hkd ⟨_, hc, ?_⟩) e2 e3) (fun q hq => ?_) h
  · rw [tk_up_self]
    exact ⟨_, e1, q2, q3, t_set q4 hap hj v⟩
  · rcases List.mem_append.mp hq with h' | h'
    · exact hl q h'
    · rw [List.mem_singleton.mp h']
      exact X.2.2.1 k (hH.1 k hk).1
theorem tk_iald (X : tk_X p m c s args G own cc nL Ts) {k : tk_K} (hk : dm.1 k) {t n : Nat} (hkd : tk_kd G k = .inr (t, n)) {cA : ClassId} (hc : G.2.2.1[t]? = some (cA, .int)) {i : Int32} (hin : vp_in i n) {x : Int32} (hv : sl k i.toNatClampNeg = .int x) (hdg : decode cc pc = .ok (.iaload, 1))
    (kk : tk_go p l e R s m args below meth c G dm nL cells slots Q sl (pc + 1) L (.int x :: st)) : tk_go p l e R s m args below meth c G dm nL cells slots Q sl pc L (.int i :: .ref (tk_ad G k) :: st) := fun H locs ls hH hl h => by
  obtain ⟨r, h1, h2⟩ := (hH.1 k hk).2.arr hkd
  have hr : r = (cA, .int) := Option.some.inj (h1.symm.trans hc)
  subst hr
  have hlt : i.toNatClampNeg < n := Nat.not_le.mp fun q => hin (Or.inr q)
  exact W.iald (v := .int x) X.1.1 X.1.2.1 h2 ((X.2.1.1.2 t _ hc).1 n (sl k)) (fun q => by cases q) (by rw [arrV_size]; exact hin) (by rw [arrV_read _ _ hlt, hv]) rfl rfl hdg (kk H locs ls hH hl h)
theorem tk_zald (X : tk_X p m c s args G own cc nL Ts) {k : tk_K} (hk : dm.1 k) {t n : Nat} (hkd : tk_kd G k = .inr (t, n)) {cA : ClassId} (hc : G.2.2.1[t]? = some (cA, .boolean)) {i : Int32} (hin : vp_in i n) {x : Int32} (hv : sl k i.toNatClampNeg = .int x) (hdg : decode cc pc = .ok (.baload, 1))
    (kk : tk_go p l e R s m args below meth c G dm nL cells slots Q sl (pc + 1) L (.int x :: st)) : tk_go p l e R s m args below meth c G dm nL cells slots Q sl pc L (.int i :: .ref (tk_ad G k) :: st) := fun H locs ls hH hl h => by
  obtain ⟨r, h1, h2⟩ := (hH.1 k hk).2.arr hkd
  have hr : r = (cA, .boolean) := Option.some.inj (h1.symm.trans hc)
  subst hr
  have hlt : i.toNatClampNeg < n := Nat.not_le.mp fun q => hin (Or.inr q)
  exact W.zald (v := .int x) X.1.1 X.1.2.1 h2 ((X.2.1.1.2 t _ hc).1 n (sl k)) (fun q => by cases q) (by rw [arrV_size]; exact hin) (by rw [arrV_read _ _ hlt, hv]) rfl rfl hdg (kk H locs ls hH hl h)
theorem tk_lald (X : tk_X p m c s args G own cc nL Ts) {k : tk_K} (hk : dm.1 k) {t n : Nat} (hkd : tk_kd G k = .inr (t, n)) {cA : ClassId} (hc : G.2.2.1[t]? = some (cA, .long)) {i : Int32} (hin : vp_in i n) {x : Int64} (hv : sl k i.toNatClampNeg = .long x) (hdg : decode cc pc = .ok (.laload, 1))
    (kk : tk_go p l e R s m args below meth c G dm nL cells slots Q sl (pc + 1) L (.long x :: st)) : tk_go p l e R s m args below meth c G dm nL cells slots Q sl pc L (.int i :: .ref (tk_ad G k) :: st) := fun H locs ls hH hl h => by
  obtain ⟨r, h1, h2⟩ := (hH.1 k hk).2.arr hkd
  have hr : r = (cA, .long) := Option.some.inj (h1.symm.trans hc)
  subst hr
  have hlt : i.toNatClampNeg < n := Nat.not_le.mp fun q => hin (Or.inr q)
  exact W.lald (v := .long x) X.1.1 X.1.2.1 h2 ((X.2.1.1.2 t _ hc).1 n (sl k)) (fun q => by cases q) (by rw [arrV_size]; exact hin) (by rw [arrV_read _ _ hlt, hv]) rfl rfl hdg (kk H locs ls hH hl h)
theorem tk_aald (X : tk_X p m c s args G own cc nL Ts) {k : tk_K} (hk : dm.1 k) {t n : Nat} (hkd : tk_kd G k = .inr (t, n)) {cA : ClassId} {C : String} (hc : G.2.2.1[t]? = some (cA, .object C)) {i : Int32} (hin : vp_in i n) {v : Value} (hv : sl k i.toNatClampNeg = v) (hdg : decode cc pc = .ok (.aaload, 1))
    (kk : tk_go p l e R s m args below meth c G dm nL cells slots Q sl (pc + 1) L (v :: st)) : tk_go p l e R s m args below meth c G dm nL cells slots Q sl pc L (.int i :: .ref (tk_ad G k) :: st) := fun H locs ls hH hl h => by
  obtain ⟨r, h1, h2⟩ := (hH.1 k hk).2.arr hkd
  have hr : r = (cA, .object C) := Option.some.inj (h1.symm.trans hc)
  subst hr
  have hlt : i.toNatClampNeg < n := Nat.not_le.mp fun q => hin (Or.inr q)
  exact W.aald (v := v) (ty := .object C) X.1.1 X.1.2.1 h2 ((X.2.1.1.2 t _ hc).1 n (sl k)) rfl (fun q => by cases q) (by rw [arrV_size]; exact hin) (by rw [arrV_read _ _ hlt, hv]) rfl rfl hdg (kk H locs ls hH hl h)
theorem tk_alen (X : tk_X p m c s args G own cc nL Ts) {k : tk_K} (hk : dm.1 k) {t n : Nat} (hkd : tk_kd G k = .inr (t, n)) {cA : ClassId} {ty : FieldType} (hc : G.2.2.1[t]? = some (cA, ty)) {v : Int32} (hv : Int32.ofNat n = v) (hdg : decode cc pc = .ok (.arraylength, 1))
    (kk : tk_go p l e R s m args below meth c G dm nL cells slots Q sl (pc + 1) L (.int v :: st)) : tk_go p l e R s m args below meth c G dm nL cells slots Q sl pc L (.ref (tk_ad G k) :: st) := fun H locs ls hH hl h => by
  obtain ⟨r, h1, h2⟩ := (hH.1 k hk).2.arr hkd
  have hr : r = (cA, ty) := Option.some.inj (h1.symm.trans hc)
  subst hr
  exact W.alen (n := v) X.1.1 X.1.2.1 h2 ((X.2.1.1.2 t _ hc).1 n (sl k)) (by rw [arrV_size]; exact hv) rfl rfl hdg (kk H locs ls hH hl h)
theorem tk_iast (X : tk_X p m c s args G own cc nL Ts) {k : tk_K} (hk : dm.1 k) {t n : Nat} (hkd : tk_kd G k = .inr (t, n)) {cA : ClassId} (hc : G.2.2.1[t]? = some (cA, .int)) {i : Int32} (hin : vp_in i n) {x : Int32} {v : Value} (hw : .int x = v) (hdg : decode cc pc = .ok (.iastore, 1))
    (kk : tk_go p l e R s m args below meth c G dm nL cells slots Q (tk_up sl k i.toNatClampNeg v) (pc + 1) L st) : tk_go p l e R s m args below meth c G dm nL cells slots Q sl pc L (.int x :: .int i :: .ref (tk_ad G k) :: st) := fun H locs ls hH hl h => by
  obtain ⟨r, h1, h2⟩ := (hH.1 k hk).2.arr hkd
  have hr : r = (cA, .int) := Option.some.inj (h1.symm.trans hc)
  subst hr
  subst hw
  refine W.iast X.1.1 X.1.2.1 h2 ((X.2.1.1.2 t _ hc).1 n (sl k)) (fun q => by cases q) (by rw [arrV_size]; exact hin) rfl rfl hdg fun H1 e1 e2 e3 => ?_
  refine kk H1 _ ls (hH.put X.2.2 hk (fun k' h' => tk_up_ne sl _ _ h') (tk_at.ofArr hkd ⟨_, hc, ?_⟩) e2 e3) (fun q hq => ?_) h
  · rw [tk_up_self, ← arrV_store]
    exact e1
  · rcases List.mem_append.mp hq with h' | h'
    · exact hl q h'
    · rw [List.mem_singleton.mp h']
      exact X.2.2.1 k (hH.1 k hk).1
theorem tk_zast (X : tk_X p m c s args G own cc nL Ts) {k : tk_K} (hk : dm.1 k) {t n : Nat} (hkd : tk_kd G k = .inr (t, n)) {cA : ClassId} (hc : G.2.2.1[t]? = some (cA, .boolean)) {i : Int32} (hin : vp_in i n) {x : Int32} {v : Value} (hw : narrow .boolean (.int x) = v) (hdg : decode cc pc = .ok (.bastore, 1))
    (kk : tk_go p l e R s m args below meth c G dm nL cells slots Q (tk_up sl k i.toNatClampNeg v) (pc + 1) L st) : tk_go p l e R s m args below meth c G dm nL cells slots Q sl pc L (.int x :: .int i :: .ref (tk_ad G k) :: st) := fun H locs ls hH hl h => by
  obtain ⟨r, h1, h2⟩ := (hH.1 k hk).2.arr hkd
  have hr : r = (cA, .boolean) := Option.some.inj (h1.symm.trans hc)
  subst hr
  subst hw
  refine W.zast X.1.1 X.1.2.1 h2 ((X.2.1.1.2 t _ hc).1 n (sl k)) (fun q => by cases q) (by rw [arrV_size]; exact hin) rfl rfl hdg fun H1 e1 e2 e3 => ?_
  refine kk H1 _ ls (hH.put X.2.2 hk (fun k' h' => tk_up_ne sl _ _ h') (tk_at.ofArr hkd ⟨_, hc, ?_⟩) e2 e3) (fun q hq => ?_) h
  · rw [tk_up_self, ← arrV_store]
    exact e1
  · rcases List.mem_append.mp hq with h' | h'
    · exact hl q h'
    · rw [List.mem_singleton.mp h']
      exact X.2.2.1 k (hH.1 k hk).1
theorem tk_last (X : tk_X p m c s args G own cc nL Ts) {k : tk_K} (hk : dm.1 k) {t n : Nat} (hkd : tk_kd G k = .inr (t, n)) {cA : ClassId} (hc : G.2.2.1[t]? = some (cA, .long)) {i : Int32} (hin : vp_in i n) {x : Int64} {v : Value} (hw : .long x = v) (hdg : decode cc pc = .ok (.lastore, 1))
    (kk : tk_go p l e R s m args below meth c G dm nL cells slots Q (tk_up sl k i.toNatClampNeg v) (pc + 1) L st) : tk_go p l e R s m args below meth c G dm nL cells slots Q sl pc L (.long x :: .int i :: .ref (tk_ad G k) :: st) := fun H locs ls hH hl h => by
  obtain ⟨r, h1, h2⟩ := (hH.1 k hk).2.arr hkd
  have hr : r = (cA, .long) := Option.some.inj (h1.symm.trans hc)
  subst hr
  subst hw
  refine W.last X.1.1 X.1.2.1 h2 ((X.2.1.1.2 t _ hc).1 n (sl k)) (fun q => by cases q) (by rw [arrV_size]; exact hin) rfl rfl hdg fun H1 e1 e2 e3 => ?_
  refine kk H1 _ ls (hH.put X.2.2 hk (fun k' h' => tk_up_ne sl _ _ h') (tk_at.ofArr hkd ⟨_, hc, ?_⟩) e2 e3) (fun q hq => ?_) h
  · rw [tk_up_self, ← arrV_store]
    exact e1
  · rcases List.mem_append.mp hq with h' | h'
    · exact hl q h'
    · rw [List.mem_singleton.mp h']
      exact X.2.2.1 k (hH.1 k hk).1
theorem tk_aast (X : tk_X p m c s args G own cc nL Ts) {k kv : tk_K} (hk : dm.1 k) (hkv : dm.1 kv) {t n ci : Nat} (hkd : tk_kd G k = .inr (t, n)) (hkdv : tk_kd G kv = .inl ci) {cA : ClassId} {C : String} {T : u_T} {N : Nat} (hc : G.2.2.1[t]? = some (cA, .object C)) (hcv : G.2.1[ci]? = some (C, T, N)) {i : Int32} (hin : vp_in i n) (hdg : decode cc pc = .ok (.aastore, 1))
    (kk : tk_go p l e R s m args below meth c G dm nL cells slots Q (tk_up sl k i.toNatClampNeg (.ref (tk_ad G kv))) (pc + 1) L st) : tk_go p l e R s m args below meth c G dm nL cells slots Q sl pc L (.ref (tk_ad G kv) :: .int i :: .ref (tk_ad G k) :: st) := fun H locs ls hH hl h => by
  obtain ⟨r, h1, h2⟩ := (hH.1 k hk).2.arr hkd
  have hr : r = (cA, .object C) := Option.some.inj (h1.symm.trans hc)
  subst hr
  have hlt : i.toNatClampNeg < n := Nat.not_le.mp fun q => hin (Or.inr q)
  have h0 : ¬ i < 0 := fun q => hin (Or.inl q)
  obtain ⟨r', hr', cellV, g1, g2, g3, -⟩ := (hH.1 kv hkv).2.obj hkdv
  have hcls := (X.2.1.1.1 ci _ hcv).2
  obtain ⟨kA, comp, k1, k2, k3, -⟩ := (X.2.1.1.2 t _ hc).2
  have hcomp : comp = G.1.1 ci := Option.some.inj (k3.symm.trans hcls.1)
  subst hcomp
  obtain ⟨kC, hkC, -⟩ := hcls.2
  refine W.aast X.1.1 X.1.2.1 h2 (fun q h => by cases h) (fun h => by cases h) k1 k2 rfl hkC ⟨h0, by rw [arrV_size]; exact hlt⟩ g1 (fun q h => by rw [g3] at h; cases h) (by rw [g2]; exact hkC) (by rw [g2]; exact va_assign hcls) rfl rfl hdg fun H1 e1 e2 e3 => ?_
  refine kk H1 _ ls (hH.put X.2.2 hk (fun k' h' => tk_up_ne sl _ _ h') (tk_at.ofArr hkd ⟨_, hc, ?_⟩) e2 e3) (fun q hq => ?_) h
  · rw [tk_up_self, ← arrV_store]
    exact e1
  · rcases List.mem_append.mp hq with h' | h'
    · exact hl q h'
    · rw [List.mem_singleton.mp h']
      exact X.2.2.1 k (hH.1 k hk).1
end TK
def tk_M (l : Launch) (G : tk_G) (dm dm' : tk_W) (y : MethodName) (ws : List Cond) (rm : Room) (As : List Value) (sl : tk_L) (r : Option Value) (sl' : tk_L) : Prop :=
  Met l y ws rm (va_Pc As (fun U => tk_H G dm sl U.heap ∧ tk_V G U)) (fun _ _ oc t => oc = .returned r ∧ tk_H G dm' sl' t.heap) rm.cells rm.slots (fun q => (tk_h0 G).size ≤ q)
theorem tk_blind {G : tk_G} {dm : tk_W} {sl : tk_L} {As : List Value} : FrameBlind (va_Pc As (fun U => tk_H G dm sl U.heap ∧ tk_V G U)) := fun a U g mk q => by
  obtain ⟨q1, q2, q3⟩ := q
  exact ⟨q1, q2, q3.same (U := U.calling g mk a) rfl⟩
theorem tk_preS {G : tk_G} {dm : tk_W} {sl : tk_L} {As : List Value} {s : State} {H : Heap} (hH : tk_H G dm sl H) (hV : tk_V G s) : PreS s H (va_Pc As (fun U => tk_H G dm sl U.heap ∧ tk_V G U)) As :=
  ⟨tk_blind, fun U hU hW => ⟨rfl, by rw [hU]; exact hH, hV.warm hW⟩⟩
theorem tk_preV {G : tk_G} {dm : tk_W} {sl : tk_L} {As : List Value} {s : State} {H : Heap} {k : tk_K} {ci : Nat} {C : String} {T : u_T} {N : Nat} (hH : tk_H G dm sl H) (hV : tk_V G s) (hk : dm.1 k) (hkd : tk_kd G k = .inl ci) (hc : G.2.1[ci]? = some (C, T, N)) : PreV s H C (tk_ad G k) (va_Pc (.ref (tk_ad G k) :: As) (fun U => tk_H G dm sl U.heap ∧ tk_V G U)) As := by
  refine ⟨tk_blind, ?_, fun U hU hW => ⟨rfl, by rw [hU]; exact hH, hV.warm hW⟩⟩
  obtain ⟨r, h1, cell, q1, q2, q3, q4⟩ := (hH.1 k hk).2.obj hkd
  have hr : r = (C, T, N) := Option.some.inj (h1.symm.trans hc)
  subst hr
  exact ⟨cell, q1, by rw [q3]; rfl, by rw [q2]; exact (hV.1.1 ci _ hc).2.1⟩
section TKC
variable {p : Program} {l : Launch} {e : Env} {R : Room} {s : State} {m : MethodId} {args : Array Value} {below : List Frame} {meth : Method} {c : Code} {G : tk_G} {dm dm' : tk_W} {nL cells slots : Nat} {Q : State → Prop} {sl sl' : tk_L} {pc : Nat} {L : List (Option Value)} {st rest As : List Value} {r : Option Value}
variable {own : String} {cc : ByteArray} {Ts : List Cond} {y : MethodName} {bytes : ByteArray} {maxL n index mc ms : Nat} {ret : Option FieldType} {ws ws' : List Cond} {rm : Room} {H : Heap} {locs : List Loc} {ls : Array Slot}
theorem tk_after {st0 : List Value} (hr : va_Run p l e R s m args below meth c H locs cells slots mc ms (F0 m pc ls st0) rest (fun _ oc t => oc = .returned r ∧ tk_H G dm' sl' t.heap) (fun q => (tk_h0 G).size ≤ q)) (hl : ∀ q ∈ locs, (tk_h0 G).size ≤ q.base) (hv : tk_lv ls nL L)
    (k : tk_go p l e R s m args below meth c G dm' nL (cells + mc) (slots + ms) Q sl' (pc + 3) L (r.toList ++ rest)) : W p l e R s m args below meth c H locs cells slots Q (F0 m pc ls st0) := by
  intro T hT X
  obtain ⟨v, st₀, t, T', L', h0, X', hL, e1, e2, ⟨hv', hH⟩, stp⟩ := hr T hT X
  cases hv'
  obtain ⟨t2, a1, b1⟩ := k T'.heap (locs ++ L') ls (by rw [e1]; exact hH) (fun q hq => by
    rcases List.mem_append.mp hq with h | h
    · exact hl q h
    · exact hL q h) hv T' rfl X'
  exact ⟨t2, stp t2 a1, b1⟩
def tk_site (R : Room) (Ts : List Cond) (y : MethodName) (bytes : ByteArray) (maxL : Nat) (ret : Option FieldType) (ws : List Cond) (rm : Room) (n : Nat) : Prop :=
  GoodIn Ts ws ∧ (∃ ws', ws = Cond.code y bytes maxL ret :: ws') ∧ Cond.initialized y.cls ∈ Ts ∧ (y.cls ≠ "java/lang/invoke/MethodHandle" ∧ y.cls ≠ "java/lang/invoke/VarHandle" ∧ (parseMethodDescriptor y.desc).map (fun d => d.parameters.length) = some n) ∧ rm.frames + 1 ≤ R.frames ∧ 8 + (maxL + 11) + rm.locals ≤ R.locals
theorem tk_callS (X : tk_X p m c s args G own cc nL Ts) (hM : tk_M l G dm dm' y ws rm As sl r sl') (hs : tk_site R Ts y bytes maxL ret ws rm n) (hlink : Cond.methodLink own index y ∈ Ts) (hst : Cond.static y ∈ Ts) (hn : As.length = n) (hrest : (rest.map fun v => v.category).sum ≤ 8) (hcs : cells + rm.cells ≤ R.cells ∧ slots + rm.slots ≤ R.slots) (hstk : st = As.reverse ++ rest) (hdg : decode cc pc = .ok (.invokestatic index, 3))
    (k : tk_go p l e R s m args below meth c G dm' nL (cells + rm.cells) (slots + rm.slots) Q sl' (pc + 3) L (r.toList ++ rest)) : tk_go p l e R s m args below meth c G dm nL cells slots Q sl pc L st := fun H locs ls hH hl hv => by
  subst hstk
  obtain ⟨hG, ⟨ws', hw⟩, hini, hd, hR⟩ := hs
  have hts := X.1.2.2.2.2
  exact tk_after (va_runS X.1 hM ⟨callB_of n hts hG hw rfl rfl (hts _ hini) (hts _ hlink) hd hR, hts _ hst⟩ (tk_preS hH X.2.1) rfl hn hv.1 rfl (lv_room hrest) hdg hcs) hl hv k
theorem tk_callV (X : tk_X p m c s args G own cc nL Ts) {kb : tk_K} (hk : dm.1 kb) {ci : Nat} (hkd : tk_kd G kb = .inl ci) {C : String} {T : u_T} {N : Nat} (hc : G.2.1[ci]? = some (C, T, N)) (hM : tk_M l G dm dm' y ws rm (.ref (tk_ad G kb) :: As) sl r sl') (hs : tk_site R Ts y bytes maxL ret ws rm n) (hlink : Cond.methodLink own index y ∈ Ts) (hin : Cond.instanceMethod y ∈ Ts) (hsel : Cond.selects C y y ∈ Ts) (hn : As.length = n) (hrest : (rest.map fun v => v.category).sum ≤ 8) (hcs : cells + rm.cells ≤ R.cells ∧ slots + rm.slots ≤ R.slots) (hstk : st = As.reverse ++ .ref (tk_ad G kb) :: rest) (hdg : decode cc pc = .ok (.invokevirtual index, 3))
    (k : tk_go p l e R s m args below meth c G dm' nL (cells + rm.cells) (slots + rm.slots) Q sl' (pc + 3) L (r.toList ++ rest)) : tk_go p l e R s m args below meth c G dm nL cells slots Q sl pc L st := fun H locs ls hH hl hv => by
  subst hstk
  obtain ⟨hG, ⟨ws', hw⟩, hini, hd, hR⟩ := hs
  have hts := X.1.2.2.2.2
  exact tk_after (va_runV X.1 hM ⟨callB_of n hts hG hw rfl rfl (hts _ hini) (hts _ hlink) hd hR, hts _ hin, hts _ hsel⟩ (tk_preV hH X.2.1 hk hkd hc) rfl hn hv.1 rfl (lv_room hrest) hdg hcs) hl hv k
theorem tk_callI (X : tk_X p m c s args G own cc nL Ts) {b : Nat} (hM : tk_M l G dm dm' y ws rm (.ref b :: As) sl r sl') (hs : tk_site R Ts y bytes maxL none ws rm n) (hy : y.name = "<init>") (hlink : Cond.methodLink own index y ∈ Ts) (hin : Cond.instanceMethod y ∈ Ts) (hn : As.length = n) (hrest : (rest.map fun v => v.category).sum ≤ 8) (hcs : cells + rm.cells ≤ R.cells ∧ slots + rm.slots ≤ R.slots) (hstk : st = As.reverse ++ .ref b :: rest) (hdg : decode cc pc = .ok (.invokespecial index, 3))
    (k : tk_go p l e R s m args below meth c G dm' nL (cells + rm.cells) (slots + rm.slots) Q sl' (pc + 3) L (r.toList ++ rest)) : tk_go p l e R s m args below meth c G dm nL cells slots Q sl pc L st := fun H locs ls hH hl hv => by
  subst hstk
  obtain ⟨hG, ⟨ws', hw⟩, hini, hd, hR⟩ := hs
  have hts := X.1.2.2.2.2
  exact tk_after (va_runI X.1 hM ⟨callB_of n hts hG hw rfl rfl (hts _ hini) (hts _ hlink) hd hR, hy, hts _ hin⟩ (tk_preS hH X.2.1) rfl hn hv.1 rfl (lv_room hrest) hdg hcs) hl hv k
theorem tk_callSN (X : tk_X p m c s args G own cc nL Ts) {host : String} (hM : tk_M l G dm dm' y ws rm As sl r sl') (hs : tk_site R Ts y bytes maxL ret ws rm n) (hlink : Cond.methodLinkNest own index y host ∈ tk_nw G) (hst : Cond.static y ∈ Ts) (hn : As.length = n) (hrest : (rest.map fun v => v.category).sum ≤ 8) (hcs : cells + rm.cells ≤ R.cells ∧ slots + rm.slots ≤ R.slots) (hstk : st = As.reverse ++ rest) (hdg : decode cc pc = .ok (.invokestatic index, 3))
    (k : tk_go p l e R s m args below meth c G dm' nL (cells + rm.cells) (slots + rm.slots) Q sl' (pc + 3) L (r.toList ++ rest)) : tk_go p l e R s m args below meth c G dm nL cells slots Q sl pc L st := fun H locs ls hH hl hv => by
  subst hstk
  obtain ⟨hG, ⟨ws', hw⟩, hini, hd, hR⟩ := hs
  have hts := X.1.2.2.2.2
  exact tk_after (va_runSN X.1 hM ⟨va_cnB n hts hG hw rfl rfl (X.2.1.2 _ hlink).2 (hts _ hini) hd hR, hts _ hst, trivial⟩ (tk_preS hH X.2.1) rfl hn hv.1 rfl (lv_room hrest) hdg hcs) hl hv k
theorem tk_callVN (X : tk_X p m c s args G own cc nL Ts) {host : String} {kb : tk_K} (hk : dm.1 kb) {ci : Nat} (hkd : tk_kd G kb = .inl ci) {C : String} {T : u_T} {N : Nat} (hc : G.2.1[ci]? = some (C, T, N)) (hM : tk_M l G dm dm' y ws rm (.ref (tk_ad G kb) :: As) sl r sl') (hs : tk_site R Ts y bytes maxL ret ws rm n) (hlink : Cond.methodLinkNest own index y host ∈ tk_nw G) (hin : Cond.instanceMethod y ∈ Ts) (hsel : Cond.selects C y y ∈ Ts) (hn : As.length = n) (hrest : (rest.map fun v => v.category).sum ≤ 8) (hcs : cells + rm.cells ≤ R.cells ∧ slots + rm.slots ≤ R.slots) (hstk : st = As.reverse ++ .ref (tk_ad G kb) :: rest) (hdg : decode cc pc = .ok (.invokevirtual index, 3))
    (k : tk_go p l e R s m args below meth c G dm' nL (cells + rm.cells) (slots + rm.slots) Q sl' (pc + 3) L (r.toList ++ rest)) : tk_go p l e R s m args below meth c G dm nL cells slots Q sl pc L st := fun H locs ls hH hl hv => by
  subst hstk
  obtain ⟨hG, ⟨ws', hw⟩, hini, hd, hR⟩ := hs
  have hts := X.1.2.2.2.2
  exact tk_after (va_runVN X.1 hM ⟨va_cnB n hts hG hw rfl rfl (X.2.1.2 _ hlink).2 (hts _ hini) hd hR, hts _ hin, hts _ hsel⟩ (tk_preV hH X.2.1 hk hkd hc) rfl hn hv.1 rfl (lv_room hrest) hdg hcs) hl hv k
theorem tk_callIN (X : tk_X p m c s args G own cc nL Ts) {host : String} {b : Nat} (hM : tk_M l G dm dm' y ws rm (.ref b :: As) sl r sl') (hs : tk_site R Ts y bytes maxL none ws rm n) (hy : y.name = "<init>") (hlink : Cond.methodLinkNest own index y host ∈ tk_nw G) (hin : Cond.instanceMethod y ∈ Ts) (hn : As.length = n) (hrest : (rest.map fun v => v.category).sum ≤ 8) (hcs : cells + rm.cells ≤ R.cells ∧ slots + rm.slots ≤ R.slots) (hstk : st = As.reverse ++ .ref b :: rest) (hdg : decode cc pc = .ok (.invokespecial index, 3))
    (k : tk_go p l e R s m args below meth c G dm' nL (cells + rm.cells) (slots + rm.slots) Q sl' (pc + 3) L (r.toList ++ rest)) : tk_go p l e R s m args below meth c G dm nL cells slots Q sl pc L st := fun H locs ls hH hl hv => by
  subst hstk
  obtain ⟨hG, ⟨ws', hw⟩, hini, hd, hR⟩ := hs
  have hts := X.1.2.2.2.2
  exact tk_after (va_runIN X.1 hM ⟨va_cnB n hts hG hw rfl rfl (X.2.1.2 _ hlink).2 (hts _ hini) hd hR, hy, hts _ hin⟩ (tk_preS hH X.2.1) rfl hn hv.1 rfl (lv_room hrest) hdg hcs) hl hv k
theorem tk_objInit (X : tk_X p m c s args G own cc nL Ts) {b : Nat} (hlink : Cond.methodLink own index Lib.objectInit ∈ Ts) (hin : Cond.instanceMethod Lib.objectInit ∈ Ts) (hcd : Cond.code Lib.objectInit ⟨#[0xb1]⟩ 1 none ∈ Ts) (hfr : 1 ≤ R.frames) (hlo : (rest.map fun v => v.category).sum + 12 ≤ R.locals) (hdg : decode cc pc = .ok (.invokespecial index, 3))
    (k : tk_go p l e R s m args below meth c G dm nL cells slots Q sl (pc + 3) L rest) : tk_go p l e R s m args below meth c G dm nL cells slots Q sl pc L (.ref b :: rest) := fun H locs ls hH hl hv =>
  W.objInit X.1.1 X.1.2.1 X.1.2.2.2.1 (X.1.2.2.2.2 _ hlink) (X.1.2.2.2.2 _ hin) (X.1.2.2.2.2 _ hcd) rfl (hv.1.trans X.1.2.2.1.symm) rfl hdg hfr (by show 2 * 0 + _ + 12 ≤ _; omega) (k H locs ls hH hl hv)
theorem tk_iret (X : tk_X p m c s args G own cc nL Ts) (hlocks : meth.locks = false) {v : Int32} (hr : meth.sig.returnType = some .int) (hdg : decode cc pc = .ok (.ireturn, 1)) (h1 : r = some (.int v)) (h2 : ∀ k, dm'.1 k → dm.1 k) (h3 : dm'.2 = none ∨ dm'.2 = dm.2) (h4 : ∀ k, dm'.1 k → sl k = sl' k) : tk_go p l e R s m args below meth c G dm nL cells slots (MQ below (fun _ _ oc t => oc = .returned r ∧ tk_H G dm' sl' t.heap) args s cells slots (fun q => (tk_h0 G).size ≤ q)) sl pc L [.int v] := fun H locs ls hH hl hv => by
  subst h1
  exact W.iret X.1.1 X.1.2.1 hr (fun t ht _ => ⟨rfl, by rw [ht]; exact (hH.dom h2 h3).congr h4⟩) hl hdg hlocks
theorem tk_zret (X : tk_X p m c s args G own cc nL Ts) (hlocks : meth.locks = false) {v : Int32} {ty : FieldType} (hr : meth.sig.returnType = some ty) (hnw : narrow ty (.int v) = .int v) (hdg : decode cc pc = .ok (.ireturn, 1)) (h1 : r = some (.int v)) (h2 : ∀ k, dm'.1 k → dm.1 k) (h3 : dm'.2 = none ∨ dm'.2 = dm.2) (h4 : ∀ k, dm'.1 k → sl k = sl' k) : tk_go p l e R s m args below meth c G dm nL cells slots (MQ below (fun _ _ oc t => oc = .returned r ∧ tk_H G dm' sl' t.heap) args s cells slots (fun q => (tk_h0 G).size ≤ q)) sl pc L [.int v] := fun H locs ls hH hl hv => by
  subst h1
  exact W.zret X.1.1 X.1.2.1 hr hnw (fun t ht _ => ⟨rfl, by rw [ht]; exact (hH.dom h2 h3).congr h4⟩) hl hdg hlocks
theorem tk_vret (X : tk_X p m c s args G own cc nL Ts) (hlocks : meth.locks = false) (hr : meth.sig.returnType = none) (hdg : decode cc pc = .ok (.return_, 1)) (h1 : r = none) (h2 : ∀ k, dm'.1 k → dm.1 k) (h3 : dm'.2 = none ∨ dm'.2 = dm.2) (h4 : ∀ k, dm'.1 k → sl k = sl' k) : tk_go p l e R s m args below meth c G dm nL cells slots (MQ below (fun _ _ oc t => oc = .returned r ∧ tk_H G dm' sl' t.heap) args s cells slots (fun q => (tk_h0 G).size ≤ q)) sl pc L [] := fun H locs ls hH hl hv => by
  subst h1
  exact W.vret X.1.1 X.1.2.1 hr (fun t ht _ => ⟨rfl, by rw [ht]; exact (hH.dom h2 h3).congr h4⟩) hl hdg hlocks
theorem tk_aret (X : tk_X p m c s args G own cc nL Ts) (hlocks : meth.locks = false) {v : Value} {rt : FieldType} (hr : meth.sig.returnType = some rt) (hrt : (∃ n, rt = .object n) ∨ ∃ t, rt = .array t) (hvv : v = .null ∨ ∃ a, v = .ref a) (hdg : decode cc pc = .ok (.areturn, 1)) (h1 : r = some v) (h2 : ∀ k, dm'.1 k → dm.1 k) (h3 : dm'.2 = none ∨ dm'.2 = dm.2) (h4 : ∀ k, dm'.1 k → sl k = sl' k) : tk_go p l e R s m args below meth c G dm nL cells slots (MQ below (fun _ _ oc t => oc = .returned r ∧ tk_H G dm' sl' t.heap) args s cells slots (fun q => (tk_h0 G).size ≤ q)) sl pc L [v] := fun H locs ls hH hl hv => by
  subst h1
  exact W.aret X.1.1 X.1.2.1 hr hrt hvv (fun t ht _ => ⟨rfl, by rw [ht]; exact (hH.dom h2 h3).congr h4⟩) hl hdg hlocks
end TKC
theorem tk_of {l : Launch} {G : tk_G} {dm dm' : tk_W} {y : MethodName} {cc : ByteArray} {nL : Nat} {ret : Option FieldType} {ws0 : List Cond} {rm : Room} {As : List Value} {sl sl' : tk_L} {r : Option Value} (hA : tk_A G) (hy : plainName y.cls = true) (hcat0 : As.all (fun v => v.category == 1) = true) (hn : As.length ≤ nL)
    (body : ∀ (p : Program) (e : Env) (s : State) (m : MethodId) (below : List Frame) (meth : Method) (c : Code), tk_X p m c s As.toArray G y.cls cc nL ws0 → meth.locks = false → meth.sig.returnType = ret → meth.name = y.name →
      tk_go p l e rm s m As.toArray below meth c G dm nL 0 0 (MQ below (fun _ _ oc t => oc = .returned r ∧ tk_H G dm' sl' t.heap) As.toArray s rm.cells rm.slots (fun q => (tk_h0 G).size ≤ q)) sl 0 (As.map some ++ List.replicate (nL - As.length) none) []) : tk_M l G dm dm' y (Cond.code y cc nL ret :: ws0) rm As sl r sl' := by
  have hcat : ∀ v ∈ As, v.category = 1 := fun v hv => by simpa using List.all_eq_true.mp hcat0 v hv
  refine Met.ofW (cc := cc) (maxL := nL) (ret := ret) hy rfl ?_
  intro p e s m args below meth c s₁ B hml hv
  obtain ⟨rfl, hH, hV⟩ := hv
  have hts := atoms_spec (ws := Cond.code y cc nL ret :: ws0) B.pre
  have hown : s.vm.findClass y.cls = some m.cls := findClass_of_methodNamed B.named
  have hlg : lg_sl As = As.map Slot.val := by
    unfold lg_sl
    clear hH hV B hml hts hown hn body hcat0
    induction As with
    | nil => rfl
    | cons a t ih =>
      have ha : ¬ a.category = 2 := by have := hcat a List.mem_cons_self; omega
      simp only [List.flatMap_cons, List.map_cons, if_neg ha]
      rw [ih (fun v hv => hcat v (List.mem_cons_of_mem _ hv))]
      rfl
  have hlen : (lg_sl As).length ≤ nL := by rw [hlg]; simpa using hn
  have hl := lv_entry As (n := nL) hlen
  rw [lg_entry_eq]
  refine body p e s m below meth c ⟨⟨B.exec, B.bytes, hml, hown, fun w hw => hts w (List.mem_cons_of_mem _ hw)⟩, hV, hA⟩ B.notSynchronized B.returns (name_of_methodNamed B.named B.method).1 s.heap [] _ hH (fun q hq => by cases hq) ⟨hl.1, hl.2.1, fun i v hi => ?_⟩
  have hlt : i < As.length := by
    rcases Nat.lt_or_ge i As.length with h | h
    · exact h
    · rw [List.getElem?_append_right (by simpa using h)] at hi
      have := List.mem_of_getElem? hi
      rw [List.mem_replicate] at this
      cases this.2
  rw [List.getElem?_append_left (by simpa using hlt), List.getElem?_map] at hi
  have hi2 : As[i]? = some v := by
    cases h : As[i]? with
    | none => rw [h] at hi; cases hi
    | some w => rw [h] at hi; simp at hi; rw [hi]
  refine ⟨hcat v (List.mem_of_getElem? hi2), ?_⟩
  rw [hlg]
  simp only [List.getElem?_toArray]
  rw [List.getElem?_append_left (by simpa using hlt), List.getElem?_map, hi2]
  rfl
section TKN
variable {p : Program} {l : Launch} {e : Env} {R : Room} {s : State} {m : MethodId} {args : Array Value} {below : List Frame} {meth : Method} {c : Code} {G : tk_G} {dm : tk_W} {nL cells slots : Nat} {Q : State → Prop} {sl : tk_L} {pc : Nat} {L : List (Option Value)} {st : List Value}
variable {own : String} {cc : ByteArray} {Ts : List Cond} {P : tk_K → Prop} {z : Nat}
theorem tk_new (X : tk_X p m c s args G own cc nL Ts) {k : tk_K} (hk : tk_do G k) (had : tk_ad G k = z) {ci : Nat} (hkd : tk_kd G k = .inl ci) {C : String} {T : u_T} {N : Nat} (hc : G.2.1[ci]? = some (C, T, N)) (hin : ∀ w ∈ u_ws C T N, w ∈ Ts) (ty : Nat → FieldType) (hty : ∀ k, k < N → parseFieldDescriptor (T k).2.2.1 = some (ty k)) {index : Nat} (hcl : Cond.classLink own index C ∈ Ts) (hinst : Cond.instantiable C N ∈ Ts) (hini : Cond.initialized C ∈ Ts) (hsl : ∀ j, j < N → defaultValue (ty j) = sl k j) (hcells : cells + 1 ≤ R.cells) (hslots : slots + N ≤ R.slots) (hdg : decode cc pc = .ok (.new index, 3))
    (kk : tk_go p l e R s m args below meth c G (fun k' => k' = k ∨ P k', some (z + 1)) nL (cells + 1) (slots + N) Q sl (pc + 3) L (.ref (tk_ad G k) :: st)) : tk_go p l e R s m args below meth c G (P, some z) nL cells slots Q sl pc L st := fun H locs ls hH hl hv => by
  have hz : H.size = tk_ad G k := by rw [had]; exact hH.2.2.2 z rfl
  have hKn := X.2.1.1.1 ci _ hc
  have hts := X.1.2.2.2.2
  refine W.newcK X.1.1 X.1.2.1 X.1.2.2.2.1 (hts _ hcl) (hts _ hinst) (hts _ hini) rfl hdg hcells hslots hKn.2.1 hz fun H1 kC hkC e1 z1 o1 => ?_
  refine kk H1 locs ls (hH.new hk (tk_at.ofObj hkd ⟨_, hc, (u_born ty hts hin hKn hkC e1 hty).to hsl⟩) (by rw [z1, hz]) (fun q hq => o1 q (by rw [← hz]; exact hq))) hl hv
theorem tk_newa (X : tk_X p m c s args G own cc nL Ts) {k : tk_K} (hk : tk_do G k) (had : tk_ad G k = z) {t N : Nat} (hkd : tk_kd G k = .inr (t, N)) {cA : ClassId} {ty : FieldType} (hc : G.2.2.1[t]? = some (cA, ty)) {atype : ArrayType} (hty : newarray.typeOf atype = ty) (harr : Cond.arrayClass ty ∈ Ts) {n : Int32} (hn : ¬ n < 0) (hN : n.toNatClampNeg = N) (hbytes : N * componentBytes ty ≤ 536870912) (hsl : ∀ j, j < N → defaultValue ty = sl k j) (hcells : cells + 1 ≤ R.cells) (hslots : slots + N ≤ R.slots) (hdg : decode cc pc = .ok (.newarray atype, 2))
    (kk : tk_go p l e R s m args below meth c G (fun k' => k' = k ∨ P k', some (z + 1)) nL (cells + 1) (slots + N) Q sl (pc + 2) L (.ref (tk_ad G k) :: st)) : tk_go p l e R s m args below meth c G (P, some z) nL cells slots Q sl pc L (.int n :: st) := fun H locs ls hH hl hv => by
  have hz : H.size = tk_ad G k := by rw [had]; exact hH.2.2.2 z rfl
  have hts := X.1.2.2.2.2
  subst hty
  refine va_newaK X.1.1 X.1.2.1 (hts _ harr) rfl hdg rfl hn hN hbytes hcells hslots hz fun H1 cA' e1 z1 o1 hAr hNm => ?_
  have hRA := (X.2.1.1.2 t _ hc).2
  have hcA : s.vm.findClass ("[" ++ (newarray.typeOf atype).toString) = some cA := by cases atype <;> exact hRA
  have he : cA' = cA := Option.some.inj (hNm.symm.trans hcA)
  subst he
  refine kk H1 locs ls (hH.new hk (tk_at.ofArr hkd ⟨_, hc, ?_⟩) (by rw [z1, hz]) (fun q hq => o1 q (by rw [← hz]; exact hq))) hl hv
  rw [e1]
  congr 1
  exact tk_arrV _ N hsl
theorem tk_anew (X : tk_X p m c s args G own cc nL Ts) {k : tk_K} (hk : tk_do G k) (had : tk_ad G k = z) {t N : Nat} (hkd : tk_kd G k = .inr (t, N)) {cA : ClassId} {C : String} (hc : G.2.2.1[t]? = some (cA, .object C)) {index : Nat} (hcl : Cond.classLink own index C ∈ Ts) (hov : Cond.arrayOver (.object C) ∈ tk_nw G) {n : Int32} (hn : ¬ n < 0) (hN : n.toNatClampNeg = N) (hbytes : N * 4 ≤ 536870912) (hsl : ∀ j, j < N → Value.null = sl k j) (hcells : cells + 1 ≤ R.cells) (hslots : slots + N ≤ R.slots) (hdg : decode cc pc = .ok (.anewarray index, 3))
    (kk : tk_go p l e R s m args below meth c G (fun k' => k' = k ∨ P k', some (z + 1)) nL (cells + 1) (slots + N) Q sl (pc + 3) L (.ref (tk_ad G k) :: st)) : tk_go p l e R s m args below meth c G (P, some z) nL cells slots Q sl pc L (.int n :: st) := fun H locs ls hH hl hv => by
  have hz : H.size = tk_ad G k := by rw [had]; exact hH.2.2.2 z rfl
  have hts := X.1.2.2.2.2
  subst hN
  refine W.anew X.1.1 X.1.2.1 X.1.2.2.2.1 (hts _ hcl) (va_AO.use (X.2.1.2 _ hov).2) rfl hdg rfl hn hbytes hcells hslots fun cA' kA comp f1 f2 f3 f4 => ?_
  obtain ⟨kA', comp', -, -, -, g4⟩ := (X.2.1.1.2 t _ hc).2
  have he : cA' = cA := Option.some.inj (f1.symm.trans g4)
  subst he
  rw [hz]
  refine kk _ locs ls (hH.new hk (tk_at.ofArr hkd ⟨_, hc, ?_⟩) (by simp) (fun q hq => by rw [Array.getElem?_push, if_neg (Nat.ne_of_lt hq)])) hl hv
  rw [← hz, Array.getElem?_push_size, arrV_new]
  congr 1
  exact tk_arrV _ _ hsl
theorem tk_maxi (X : tk_X p m c s args G own cc nL Ts) {index : Nat} (hlink : Cond.methodLink own index Lib.Math.max.name ∈ Ts) (hst : Cond.static Lib.Math.max.name ∈ Ts) (hini : Cond.initialized "java/lang/Math" ∈ Ts) (hcode : Cond.code Lib.Math.max.name Lib.Math.max.code 2 (some .int) ∈ Ts) (hfr : 1 ≤ R.frames) (hlo : (st.map fun v => v.category).sum + 13 ≤ R.locals) (hcc : cells ≤ R.cells) (hss : slots ≤ R.slots) {x y : Int32} (hdg : decode cc pc = .ok (.invokestatic index, 3))
    (kk : tk_go p l e R s m args below meth c G dm nL cells slots Q sl (pc + 3) L (.int (if x < y then y else x) :: st)) : tk_go p l e R s m args below meth c G dm nL cells slots Q sl pc L (.int y :: .int x :: st) := fun H locs ls hH hl hv =>
  va_mmax X.1.1 X.1.2.1 (X.1.2.2.1.trans hv.1.symm) X.1.2.2.2.1 (X.1.2.2.2.2 _ hlink) (X.1.2.2.2.2 _ hst) (X.1.2.2.2.2 _ hini) (X.1.2.2.2.2 _ hcode) hfr hlo hcc hss hdg (kk H locs ls hH hl hv)
theorem tk_mini (X : tk_X p m c s args G own cc nL Ts) {index : Nat} (hlink : Cond.methodLink own index Lib.Math.min.name ∈ Ts) (hst : Cond.static Lib.Math.min.name ∈ Ts) (hini : Cond.initialized "java/lang/Math" ∈ Ts) (hcode : Cond.code Lib.Math.min.name Lib.Math.min.code 2 (some .int) ∈ Ts) (hfr : 1 ≤ R.frames) (hlo : (st.map fun v => v.category).sum + 13 ≤ R.locals) (hcc : cells ≤ R.cells) (hss : slots ≤ R.slots) {x y : Int32} (hdg : decode cc pc = .ok (.invokestatic index, 3))
    (kk : tk_go p l e R s m args below meth c G dm nL cells slots Q sl (pc + 3) L (.int (if y < x then y else x) :: st)) : tk_go p l e R s m args below meth c G dm nL cells slots Q sl pc L (.int y :: .int x :: st) := fun H locs ls hH hl hv =>
  va_mmin X.1.1 X.1.2.1 (X.1.2.2.1.trans hv.1.symm) X.1.2.2.2.1 (X.1.2.2.2.2 _ hlink) (X.1.2.2.2.2 _ hst) (X.1.2.2.2.2 _ hini) (X.1.2.2.2.2 _ hcode) hfr hlo hcc hss hdg (kk H locs ls hH hl hv)
def tk_cp (sl : tk_L) (k0 k1 : tk_K) (n : Nat) : tk_L := fun k j => if k = k1 ∧ j < n then sl k0 j else sl k j
theorem tk_copy (X : tk_X p m c s args G own cc nL Ts) {index : Nat} (hlink : Cond.methodLink own index arraycopyName ∈ Ts) (hnat : Cond.native arraycopyName ∈ Ts) (hstat : Cond.static arraycopyName ∈ Ts) (hini : Cond.initialized "java/lang/System" ∈ Ts) {k0 k1 : tk_K} (hk0 : dm.1 k0) (hk1 : dm.1 k1) {t n0 n1 : Nat} (hkd0 : tk_kd G k0 = .inr (t, n0)) (hkd1 : tk_kd G k1 = .inr (t, n1)) {cA : ClassId} (hc : G.2.2.1[t]? = some (cA, .int)) {f g : Nat → Int32} (hf : ∀ j, j < n0 → sl k0 j = .int (f j)) (hg : ∀ j, j < n1 → sl k1 j = .int (g j)) {n : Nat} {z0 nn : Int32} (hz0 : z0 = 0) (hnn : nn = nI n) (h4 : n ≤ n0) (h5 : n ≤ n1) (hn31 : n < 2 ^ 31) (hframes : 1 ≤ R.frames) (hlocals : (st.map fun v => v.category).sum + (nativeFrameWords "java/lang/System" "arraycopy" 5 + 11) ≤ R.locals) (hdg : decode cc pc = .ok (.invokestatic index, 3))
    (kk : tk_go p l e R s m args below meth c G dm nL cells slots Q (tk_cp sl k0 k1 n) (pc + 3) L st) : tk_go p l e R s m args below meth c G dm nL cells slots Q sl pc L (.int nn :: .int z0 :: .ref (tk_ad G k1) :: .int z0 :: .ref (tk_ad G k0) :: st) := fun H locs ls hH hl hv => by
  subst hz0
  subst hnn
  have hts := X.1.2.2.2.2
  obtain ⟨r0, hr0, hc0⟩ := (hH.1 k0 hk0).2.arr hkd0
  obtain ⟨r1, hr1, hc1⟩ := (hH.1 k1 hk1).2.arr hkd1
  have e0 : r0 = (cA, .int) := Option.some.inj (hr0.symm.trans hc)
  have e1 : r1 = (cA, .int) := Option.some.inj (hr1.symm.trans hc)
  subst e0
  subst e1
  have ea0 : arrV cA n0 (sl k0) = arrV cA n0 (fun j => .int (f j)) := tk_arrV cA n0 (g := fun j => .int (f j)) hf
  have ea1 : arrV cA n1 (sl k1) = arrV cA n1 (fun j => .int (g j)) := tk_arrV cA n1 (g := fun j => .int (g j)) hg
  rw [ea0] at hc0
  rw [ea1] at hc1
  have hcl : (nI n).toNatClampNeg = n := nI_clamp hn31
  have hni : (nI n).toInt = (n : Int) := nI_toInt hn31
  have h0c : (0 : Int32).toNatClampNeg = 0 := by decide
  have h0i : (0 : Int32).toInt = 0 := by decide
  obtain ⟨-, kc0, hkc0, cm0, hkk0⟩ := (X.2.1.1.2 t _ hc).1 n0 (fun j => .int (f j))
  obtain ⟨-, kc1, hkc1, cm1, hkk1⟩ := (X.2.1.1.2 t _ hc).1 n1 (fun j => .int (g j))
  intro T hT XS
  obtain ⟨vm', X', step⟩ := XS.arraycopy X.1.1 X.1.2.2.2.1 (hts _ hlink) (hts _ hnat) (hts _ hstat) (hts _ hini) (src := tk_ad G k0) (dst := tk_ad G k1) (cs := arrV cA n0 (fun j => .int (f j))) (cd := arrV cA n1 (fun j => .int (g j))) (srcPos := 0) (destPos := 0) (n := nI n) (by rw [hT]; exact hc0) (by rw [hT]; exact hc1)
    (fun _ h => by cases h) (fun _ h => by cases h) (fun h => by cases h) (fun h => by cases h) hkc0 hkc1 hkk0 hkk1 (by simp [refKind]) (by decide) (by decide) (nI_pos hn31)
    (by rw [h0i, hni, arrV_size]; omega)
    (by rw [h0i, hni, arrV_size]; omega)
    (fun vm₁ _ i hi => by
      rw [hcl] at hi
      have e : (arrV cA n0 (fun j => .int (f j))).slots.getD ((0 : Int32).toNatClampNeg + i) .null = .int (f i) := by
        rw [h0c, Nat.zero_add, Array.getD_eq_getD_getElem?, arrV_read _ _ (by omega)]
        rfl
      refine ⟨?_, ?_⟩
      · rw [e]
        rfl
      · rw [e]
        exact trivial)
    (g := F0 m pc ls (.int (nI n) :: .int 0 :: .ref (tk_ad G k1) :: .int 0 :: .ref (tk_ad G k0) :: st)) rfl (hv.1.trans X.1.2.2.1.symm) (rest := st) rfl (by rw [X.1.2.1]; exact hdg) hframes (by show 2 * 0 + _ + _ ≤ _; omega)
  have e1 : copied (arrV cA n0 (fun j => .int (f j))) (arrV cA n1 (fun j => .int (g j))) 0 0 (nI n) = arrV cA n1 (fun j => .int (va_cpy f g (0 : Int32).toNatClampNeg (0 : Int32).toNatClampNeg (nI n).toNatClampNeg j)) := va_copied (fun z => .int z) cA cA f g (by rw [h0c, hcl]; omega)
  rw [h0c, hcl] at e1
  rw [e1] at X' step
  have hlt : tk_ad G k1 < H.size := (Array.getElem?_eq_some_iff.mp hc1).1
  have hheap : ((T.setVm vm').setCell (tk_ad G k1) (arrV cA n1 (fun j => .int (va_cpy f g 0 0 n j)))).heap = H.setIfInBounds (tk_ad G k1) (arrV cA n1 (fun j => .int (va_cpy f g 0 0 n j))) := by rw [← hT]; rfl
  have oq : ∀ q : Nat, q ≠ tk_ad G k1 → (H.setIfInBounds (tk_ad G k1) (arrV cA n1 (fun j => .int (va_cpy f g 0 0 n j))))[q]? = H[q]? := fun q hq => by simp [Array.getElem?_setIfInBounds, Ne.symm hq]
  obtain ⟨t', a1, b1⟩ := kk (H.setIfInBounds (tk_ad G k1) (arrV cA n1 (fun j => .int (va_cpy f g 0 0 n j)))) _ ls (hH.put X.2.2 hk1 (fun k' h' => by
      funext j
      simp [tk_cp, h']) (tk_at.ofArr hkd1 ⟨_, hc, by
        rw [Array.getElem?_setIfInBounds, if_pos rfl, if_pos hlt]
        congr 1
        refine (tk_arrV cA n1 (g := fun j => .int (va_cpy f g 0 0 n j)) (fun j hj => ?_)).symm
        by_cases hjn : j < n
        · simp [tk_cp, hjn, va_cpy, hf j (by omega)]
        · simp [tk_cp, hjn, va_cpy, hg j hj]⟩) (by simp) oq) (fun q hq => by
      rcases List.mem_append.mp hq with h | h
      · exact hl q h
      · obtain ⟨z, -, hz⟩ := List.mem_map.mp h
        rw [← hz]
        exact X.2.2.1 k1 (hH.1 k1 hk1).1) hv _ hheap X'
  exact ⟨t', step t' a1, b1⟩
theorem tk_sld (X : tk_X p m c s args G own cc nL Ts) {b Ln : Nat} {xs : Nat → Int32} (hX : va_X b Ln xs s (tk_h0 G)) (hbl : b < (tk_h0 G).size) {i : Int32} (hin : vp_in i Ln) (hdg : decode cc pc = .ok (.iaload, 1))
    (kk : tk_go p l e R s m args below meth c G dm nL cells slots Q sl (pc + 1) L (.int (xs i.toNatClampNeg) :: st)) : tk_go p l e R s m args below meth c G dm nL cells slots Q sl pc L (.int i :: .ref b :: st) := fun H locs ls hH hl hv => by
  obtain ⟨scr, h1, h2, h3, h4, h5⟩ := hX
  have hlt : i.toNatClampNeg < Ln := Nat.not_le.mp fun q => hin (Or.inr q)
  exact W.iald (v := .int (xs i.toNatClampNeg)) X.1.1 X.1.2.1 (by rw [hH.2.1 b hbl]; exact h1) h2 h3 (by rw [h4]; exact hin) (h5 _ hlt) rfl rfl hdg (kk H locs ls hH hl hv)
theorem tk_slen (X : tk_X p m c s args G own cc nL Ts) {b Ln : Nat} {xs : Nat → Int32} (hX : va_X b Ln xs s (tk_h0 G)) (hbl : b < (tk_h0 G).size) (hdg : decode cc pc = .ok (.arraylength, 1))
    (kk : tk_go p l e R s m args below meth c G dm nL cells slots Q sl (pc + 1) L (.int (nI Ln) :: st)) : tk_go p l e R s m args below meth c G dm nL cells slots Q sl pc L (.ref b :: st) := fun H locs ls hH hl hv => by
  obtain ⟨scr, h1, h2, h3, h4, h5⟩ := hX
  exact W.alen (n := nI Ln) X.1.1 X.1.2.1 (by rw [hH.2.1 b hbl]; exact h1) h2 (by rw [h4] <;> rfl) rfl rfl hdg (kk H locs ls hH hl hv)
theorem tk_lcmp (X : tk_X p m c s args G own cc nL Ts) {x y : Int64} (hdg : decode cc pc = .ok (.lcmp, 1)) {v : Int32} (hw : lg_cmp x y = v)
    (kk : tk_go p l e R s m args below meth c G dm nL cells slots Q sl (pc + 1) L (.int v :: st)) : tk_go p l e R s m args below meth c G dm nL cells slots Q sl pc L (.long y :: .long x :: st) := fun H locs ls hH hl hv => by
  subst hw
  exact W.lcmp X.1.1 X.1.2.1 hdg (kk H locs ls hH hl hv)
end TKN
theorem tk_good {b : Cond} {WS : List Cond} (hb : b ∈ WS) (hW : WS.all goodWord = true) : GoodIn WS (b :: WS) := fun w hw => by
  have h : w ∈ WS := by
    rcases List.mem_cons.mp hw with rfl | h
    · exact hb
    · exact h
  exact ⟨h, good_of_word (List.all_eq_true.mp hW w h)⟩
end
section
abbrev ks_M : Type := tk_K → Nat → Int32
def ks_up (a : ks_M) (k : tk_K) (i : Nat) (v : Int32) : ks_M := fun k' i' => if k' = k ∧ i' = i then v else a k' i'
theorem ks_up_eq (a : ks_M) (k : tk_K) (i : Nat) (v : Int32) : ks_up a k i v k i = v := by simp [ks_up]
theorem ks_up_ne (a : ks_M) {k k' : tk_K} {i i' : Nat} (v : Int32) (h : ¬ (k' = k ∧ i' = i)) : ks_up a k i v k' i' = a k' i' := if_neg h
theorem ks_up_nk (a : ks_M) {k k' : tk_K} {i i' : Nat} (v : Int32) (h : k' ≠ k) : ks_up a k i v k' i' = a k' i' := if_neg (fun q => h q.1)
abbrev ks_O : Type := Int64 × Int32
abbrev ks_P : Type := va_G × (Nat → ClassId) × (tk_K → Nat) × Nat × Nat × Nat × Heap
abbrev ks_n (P : ks_P) : Nat := P.2.2.2.1
abbrev ks_S (P : ks_P) : Nat := P.2.2.2.2.1
abbrev ks_W (P : ks_P) : Nat := P.2.2.2.2.2.1
abbrev ks_T (P : ks_P) : Nat := ks_S P * ks_W P
def ks_kd (P : ks_P) (k : tk_K) : Nat ⊕ (Nat × Nat) := match k.1 with
  | 0 => .inl 0
  | 1 => .inl 1
  | 2 => .inr (0, 64)
  | 3 => .inr (3, ks_n P)
  | 4 => .inl 2
  | 5 => .inl 3
  | 6 => .inr (4, ks_T P)
  | 7 => .inl 4
  | 8 => .inr (0, 16)
  | 9 => .inr (0, 8)
  | 10 => .inr (0, 8)
  | 11 => .inr (0, 6)
  | 12 => .inl 5
  | 13 => .inr (0, 64)
  | 14 => .inr (0, 24)
  | 15 => .inr (0, 24)
  | 16 => .inr (0, 48)
  | 17 => .inr (0, 3)
  | 18 => .inr (0, 3)
  | 19 => .inr (0, 3)
  | 20 => .inr (1, 3)
  | 21 => .inr (0, 18)
  | 28 => .inr (2, 1)
  | _ => .inr (0, 36)
def ks_do (P : ks_P) (k : tk_K) : Prop := match k.1 with
  | 4 => k.2.1 < ks_n P ∧ k.2.2 = 0
  | 5 => k.2.1 < ks_n P ∧ k.2.2 = 0
  | 6 => k.2.1 < ks_n P ∧ k.2.2 = 0
  | 7 => k.2.1 < ks_n P ∧ k.2.2 < ks_T P
  | 8 => k.2.1 < ks_n P ∧ k.2.2 = 0
  | 9 => k.2.1 < ks_n P ∧ k.2.2 = 0
  | 10 => k.2.1 < ks_n P ∧ k.2.2 = 0
  | 11 => k.2.1 < ks_n P ∧ k.2.2 = 0
  | f => f ≤ 28 ∧ k.2.1 = 0 ∧ k.2.2 = 0
def ks_dm (P : ks_P) : tk_W := (ks_do P, none)
def ks_aT (P : ks_P) : List (ClassId × FieldType) := [(P.2.1 0, .int), (P.2.1 1, .boolean), (P.2.1 2, .long), (P.2.1 3, .object R_Core), (P.2.1 4, .object R_Way)]
def ks_G (P : ks_P) : tk_G := (P.1, classes, ks_aT P, P.2.2.1, ks_kd P, ks_do P, NW, P.2.2.2.2.2.2)
abbrev ks_ad (P : ks_P) : tk_K → Nat := tk_ad (ks_G P)
def ks_J (S W r : Nat) : Nat := if r % 3 < W ∧ r / 3 < S then (r / 3) * W + r % 3 else 12 + r
def ks_I (W j : Nat) : Nat := if j < 12 then (j / W) * 3 + j % W else j - 12
theorem ks_I_J : ∀ S, S < 5 → ∀ W, W < 4 → ∀ r, r < 12 → 0 < W → ks_I W (ks_J S W r) = r := by decide +kernel
def ks_vk (S W f i : Nat) : tk_K := match f with
  | 13 => (2, 0, 0)
  | 14 => (9, i / 8, 0)
  | 15 => (10, i / 8, 0)
  | 16 => (8, i / 16, 0)
  | 17 => (4, i, 0)
  | 18 => (4, i, 0)
  | 19 => (4, i, 0)
  | 20 => (4, i, 0)
  | 21 => (11, i / 6, 0)
  | _ => (7, i / 12, ks_J S W (i % 12))
def ks_vi (f i : Nat) : Nat := match f with
  | 13 => i
  | 14 => i % 8
  | 15 => i % 8
  | 16 => i % 16
  | 17 => 6
  | 18 => 8
  | 19 => 7
  | 20 => 9
  | 21 => i % 6
  | f => f - 22
def ks_iv (W : Nat) (k : tk_K) (v : Nat) : Nat × Nat := match k.1 with
  | 2 => (13, v)
  | 9 => (14, 8 * k.2.1 + v)
  | 10 => (15, 8 * k.2.1 + v)
  | 8 => (16, 16 * k.2.1 + v)
  | 4 => (match v with
    | 6 => (17, k.2.1)
    | 8 => (18, k.2.1)
    | 7 => (19, k.2.1)
    | _ => (20, k.2.1))
  | 11 => (21, 6 * k.2.1 + v)
  | _ => (22 + v, 12 * k.2.1 + ks_I W k.2.2)
theorem ks_iv_v {S W : Nat} (hS : S < 5) (hW : W < 4) (h0 : 0 < W) : ∀ (f i : Nat), 13 ≤ f → f ≤ 27 → ks_iv W (ks_vk S W f i) (ks_vi f i) = (f, i) := by
  intro f i h1 h2
  match f, h1, h2 with
  | 13, _, _ => exact rfl
  | 14, _, _ => exact by show (14, 8 * (i / 8) + i % 8) = (14, i); rw [show 8 * (i / 8) + i % 8 = i by omega]
  | 15, _, _ => exact by show (15, 8 * (i / 8) + i % 8) = (15, i); rw [show 8 * (i / 8) + i % 8 = i by omega]
  | 16, _, _ => exact by show (16, 16 * (i / 16) + i % 16) = (16, i); rw [show 16 * (i / 16) + i % 16 = i by omega]
  | 17, _, _ => exact rfl
  | 18, _, _ => exact rfl
  | 19, _, _ => exact rfl
  | 20, _, _ => exact rfl
  | 21, _, _ => exact by show (21, 6 * (i / 6) + i % 6) = (21, i); rw [show 6 * (i / 6) + i % 6 = i by omega]
  | 22, _, _ => exact by show (22 + (22 - 22), 12 * (i / 12) + ks_I W (ks_J S W (i % 12))) = (22, i); rw [ks_I_J S hS W hW (i % 12) (by omega) h0, show 12 * (i / 12) + i % 12 = i by omega]
  | 23, _, _ => exact by show (22 + (23 - 22), 12 * (i / 12) + ks_I W (ks_J S W (i % 12))) = (23, i); rw [ks_I_J S hS W hW (i % 12) (by omega) h0, show 12 * (i / 12) + i % 12 = i by omega]
  | 24, _, _ => exact by show (22 + (24 - 22), 12 * (i / 12) + ks_I W (ks_J S W (i % 12))) = (24, i); rw [ks_I_J S hS W hW (i % 12) (by omega) h0, show 12 * (i / 12) + i % 12 = i by omega]
  | 25, _, _ => exact by show (22 + (25 - 22), 12 * (i / 12) + ks_I W (ks_J S W (i % 12))) = (25, i); rw [ks_I_J S hS W hW (i % 12) (by omega) h0, show 12 * (i / 12) + i % 12 = i by omega]
  | 26, _, _ => exact by show (22 + (26 - 22), 12 * (i / 12) + ks_I W (ks_J S W (i % 12))) = (26, i); rw [ks_I_J S hS W hW (i % 12) (by omega) h0, show 12 * (i / 12) + i % 12 = i by omega]
  | 27, _, _ => exact by show (22 + (27 - 22), 12 * (i / 12) + ks_I W (ks_J S W (i % 12))) = (27, i); rw [ks_I_J S hS W hW (i % 12) (by omega) h0, show 12 * (i / 12) + i % 12 = i by omega]
  | f + 28, _, h => exact absurd h (by omega)
theorem ks_v_inj {S W : Nat} (hS : S < 5) (hW : W < 4) (h0 : 0 < W) {f f' i i' : Nat} (h1 : 13 ≤ f) (h2 : f ≤ 27) (h1' : 13 ≤ f') (h2' : f' ≤ 27) (hk : ks_vk S W f i = ks_vk S W f' i') (hv : ks_vi f i = ks_vi f' i') : f = f' ∧ i = i' := by
  have e1 := ks_iv_v hS hW h0 f i h1 h2
  have e2 := ks_iv_v hS hW h0 f' i' h1' h2'
  rw [hk, hv, e2] at e1
  exact ⟨(congrArg Prod.fst e1).symm, (congrArg Prod.snd e1).symm⟩
def ks_int (k : tk_K) (j : Nat) : Bool := match k.1 with
  | 0 => decide (2 ≤ j)
  | 2 => true
  | 4 => decide (6 ≤ j)
  | 7 => true
  | 8 => true
  | 9 => true
  | 10 => true
  | 11 => true
  | _ => false
def ks_cs (P : ks_P) (b : ks_M) (o : ks_O) (k : tk_K) (j : Nat) : Value := match k.1 with
  | 0 => (match j with
    | 0 => .ref (ks_ad P (1, 0, 0))
    | _ => .ref (ks_ad P (3, 0, 0)))
  | 1 => .ref (ks_ad P (2, 0, 0))
  | 2 => .null
  | 7 => .null
  | 8 => .null
  | 9 => .null
  | 10 => .null
  | 11 => .null
  | 3 => .ref (ks_ad P (4, j, 0))
  | 4 => (match j with
    | 0 => .int (nI k.2.1)
    | 1 => .ref (ks_ad P (5, k.2.1, 0))
    | 2 => .ref (ks_ad P (8, k.2.1, 0))
    | 3 => .ref (ks_ad P (9, k.2.1, 0))
    | 4 => .ref (ks_ad P (10, k.2.1, 0))
    | _ => .ref (ks_ad P (11, k.2.1, 0)))
  | 5 => (match j with
    | 0 => .int (nI (ks_S P))
    | 1 => .int (nI (ks_W P))
    | _ => .ref (ks_ad P (6, k.2.1, 0)))
  | 6 => .ref (ks_ad P (7, k.2.1, j))
  | 12 => (match j with
    | 0 => .int (nI (ks_n P))
    | 1 => .int (nI (ks_S P))
    | 2 => .int (nI (ks_W P))
    | 3 => .int o.2
    | 4 => .int (b (0, 0, 0) 3)
    | 5 => .int (b (0, 0, 0) 2)
    | j + 6 => .ref (ks_ad P (13 + j, 0, 0)))
  | 28 => (match j with
    | 0 => .long o.1
    | _ => .long 0)
  | f => .int (b (ks_vk (ks_S P) (ks_W P) f j) (ks_vi f j))
def ks_sl (P : ks_P) (a b : ks_M) (o : ks_O) : tk_L := fun k j => match ks_int k j with
  | true => .int (a k j)
  | false => ks_cs P b o k j
def ks_ok (P : ks_P) : Prop := 1 ≤ ks_n P ∧ ks_n P ≤ 3 ∧ (ks_S P = 1 ∨ ks_S P = 2 ∨ ks_S P = 4) ∧ 1 ≤ ks_W P ∧ ks_W P ≤ 3 ∧ tk_A (ks_G P)
theorem ks_wa (P : ks_P) (a b : ks_M) (o : ks_O) {k : tk_K} {j : Nat} (h : ks_int k j = true) (v : Int32) : tk_up (ks_sl P a b o) k j (.int v) = ks_sl P (ks_up a k j v) b o := by
  funext k' j'
  by_cases hk : k' = k
  · subst hk
    rw [tk_up_self]
    by_cases hj : j' = j
    · subst hj
      simp [updV, ks_sl, h, ks_up]
    · simp [updV, hj, ks_sl, ks_up]
  · rw [tk_up_ne _ _ _ hk]
    simp [ks_sl, ks_up, hk]
theorem ks_cs_arr (P : ks_P) (b : ks_M) (o : ks_O) {f : Nat} (h1 : 13 ≤ f) (h2 : f ≤ 27) (c d j : Nat) : ks_cs P b o (f, c, d) j = .int (b (ks_vk (ks_S P) (ks_W P) f j) (ks_vi f j)) := by
  match f, h1, h2 with
  | 13, _, _ => rfl
  | 14, _, _ => rfl
  | 15, _, _ => rfl
  | 16, _, _ => rfl
  | 17, _, _ => rfl
  | 18, _, _ => rfl
  | 19, _, _ => rfl
  | 20, _, _ => rfl
  | 21, _, _ => rfl
  | 22, _, _ => rfl
  | 23, _, _ => rfl
  | 24, _, _ => rfl
  | 25, _, _ => rfl
  | 26, _, _ => rfl
  | 27, _, _ => rfl
  | f + 28, _, h => exact absurd h (by omega)
theorem ks_int_ref {f : Nat} (h1 : 12 ≤ f) (c d j : Nat) : ks_int (f, c, d) j = false := by
  unfold ks_int
  match f, h1 with
  | f + 12, _ => rfl
theorem ks_vk_fam (S W f i : Nat) : (ks_vk S W f i).1 ≠ 0 ∧ (ks_vk S W f i).1 ≠ 12 := by
  unfold ks_vk
  split <;> simp
theorem ks_cs_up (P : ks_P) (b : ks_M) (o : ks_O) {f i : Nat} (v : Int32) (k : tk_K) (j : Nat) (hk : k.1 ≤ 28) (h : 13 ≤ k.1 → k.1 ≤ 27 → ¬ (ks_vk (ks_S P) (ks_W P) k.1 j = ks_vk (ks_S P) (ks_W P) f i ∧ ks_vi k.1 j = ks_vi f i)) : ks_cs P (ks_up b (ks_vk (ks_S P) (ks_W P) f i) (ks_vi f i) v) o k j = ks_cs P b o k j := by
  obtain ⟨g, c, d⟩ := k
  have hf := ks_vk_fam (ks_S P) (ks_W P) f i
  have h12 : ∀ x : Nat, ks_up b (ks_vk (ks_S P) (ks_W P) f i) (ks_vi f i) v (12, 0, 0) x = b (12, 0, 0) x := fun x => ks_up_nk b v (fun q => hf.2 (by rw [← q]))
  have h00 : ∀ x : Nat, ks_up b (ks_vk (ks_S P) (ks_W P) f i) (ks_vi f i) v (0, 0, 0) x = b (0, 0, 0) x := fun x => ks_up_nk b v (fun q => hf.1 (by rw [← q]))
  by_cases h13 : 13 ≤ g ∧ g ≤ 27
  · rw [ks_cs_arr P _ o h13.1 h13.2, ks_cs_arr P _ o h13.1 h13.2, ks_up_ne b v (h h13.1 h13.2)]
  · have hg : g ≤ 28 := hk
    have hg2 : g ≤ 12 ∨ g = 28 := by omega
    match g, hg2 with
    | 0, _ => rfl
    | 1, _ => rfl
    | 2, _ => rfl
    | 3, _ => rfl
    | 4, _ => rfl
    | 5, _ => rfl
    | 6, _ => rfl
    | 7, _ => rfl
    | 8, _ => rfl
    | 9, _ => rfl
    | 10, _ => rfl
    | 11, _ => rfl
    | 28, _ => rfl
    | 12, _ =>
      match j with
      | 0 => rfl
      | 1 => rfl
      | 2 => rfl
      | 3 => rfl
      | 4 => exact congrArg Value.int (h00 3)
      | 5 => exact congrArg Value.int (h00 2)
      | j + 6 => rfl
theorem ks_do_28 {P : ks_P} {k : tk_K} (h : ks_do P k) : k.1 ≤ 28 := by
  unfold ks_do at h
  split at h <;> first | omega | exact h.1
theorem ks_do_00 {P : ks_P} {f c d : Nat} (h : ks_do P (f, c, d)) (hf : 12 ≤ f) : c = 0 ∧ d = 0 := by
  unfold ks_do at h
  split at h <;> first | (exfalso; simp at *; omega) | exact h.2
theorem ks_wb (P : ks_P) (hP : ks_ok P) (a b : ks_M) (o : ks_O) {f : Nat} (h1 : 13 ≤ f) (h2 : f ≤ 27) (i : Nat) (v : Int32) : ∀ k, ks_do P k → tk_up (ks_sl P a b o) (f, 0, 0) i (.int v) k = ks_sl P a (ks_up b (ks_vk (ks_S P) (ks_W P) f i) (ks_vi f i) v) o k := by
  intro k hk
  obtain ⟨g, c, d⟩ := k
  have hS : ks_S P < 5 := by rcases hP.2.2.1 with h | h | h <;> omega
  have hW : ks_W P < 4 := by have := hP.2.2.2.2.1; omega
  have hW0 : 0 < ks_W P := hP.2.2.2.1
  funext j
  by_cases e : (g, c, d) = (f, 0, 0)
  · cases e
    rw [tk_up_self]
    by_cases hj : j = i
    · subst hj
      simp only [updV, if_true, ks_sl, ks_int_ref (show 12 ≤ f by omega)]
      rw [ks_cs_arr P _ o h1 h2, ks_up_eq]
    · simp only [updV, hj, if_false, ks_sl, ks_int_ref (show 12 ≤ f by omega)]
      exact (ks_cs_up P b o v (f, 0, 0) j (by show f ≤ 28; omega) (fun _ _ q => hj (ks_v_inj hS hW hW0 h1 h2 h1 h2 q.1 q.2).2)).symm
  · rw [tk_up_ne _ _ _ e]
    unfold ks_sl
    split
    · rfl
    · refine (ks_cs_up P b o v (g, c, d) j (ks_do_28 hk) (fun g1 g2 q => ?_)).symm
      have hgf : g = f := (ks_v_inj hS hW hW0 g1 g2 h1 h2 q.1 q.2).1
      have h00 := ks_do_00 hk (by omega)
      exact e (by rw [hgf, h00.1, h00.2])
def ks_fk (j : Nat) : tk_K × Nat := match j with
  | 4 => ((0, 0, 0), 3)
  | _ => ((0, 0, 0), 2)
theorem ks_vk_ne (S W f i : Nat) {j : Nat} : ks_vk S W f i ≠ (ks_fk j).1 := by
  have h := ks_vk_fam S W f i
  intro q
  rw [q] at h
  unfold ks_fk at h
  split at h <;> simp at h
theorem ks_wf (P : ks_P) (a b : ks_M) (o : ks_O) {j0 : Nat} (hj0 : j0 = 4 ∨ j0 = 5) (v : Int32) : ∀ k, ks_do P k → tk_up (ks_sl P a b o) (12, 0, 0) j0 (.int v) k = ks_sl P a (ks_up b (ks_fk j0).1 (ks_fk j0).2 v) o k := by
  intro k hk
  obtain ⟨g, c, d⟩ := k
  funext j
  by_cases e : (g, c, d) = (12, 0, 0)
  · cases e
    rw [tk_up_self]
    rcases hj0 with rfl | rfl
    · match j with
      | 0 => rfl
      | 1 => rfl
      | 2 => rfl
      | 3 => rfl
      | 4 => exact congrArg Value.int (ks_up_eq b (0, 0, 0) 3 v).symm
      | 5 => exact congrArg Value.int (ks_up_ne b v (by decide)).symm
      | j + 6 =>
        show (if j + 6 = 4 then _ else _) = _
        rw [if_neg (by omega)]
        rfl
    · match j with
      | 0 => rfl
      | 1 => rfl
      | 2 => rfl
      | 3 => rfl
      | 4 => exact congrArg Value.int (ks_up_ne b v (by decide)).symm
      | 5 => exact congrArg Value.int (ks_up_eq b (0, 0, 0) 2 v).symm
      | j + 6 =>
        show (if j + 6 = 5 then _ else _) = _
        rw [if_neg (by omega)]
        rfl
  · rw [tk_up_ne _ _ _ e]
    unfold ks_sl
    split
    · rfl
    · by_cases h13 : 13 ≤ g ∧ g ≤ 27
      · rw [ks_cs_arr P _ o h13.1 h13.2, ks_cs_arr P _ o h13.1 h13.2, ks_up_nk b v (ks_vk_ne _ _ _ _)]
      · have hg : g ≤ 28 := ks_do_28 hk
        have hg2 : g < 12 ∨ g = 12 ∨ g = 28 := by omega
        match g, hg2 with
        | 0, _ => rfl
        | 1, _ => rfl
        | 2, _ => rfl
        | 3, _ => rfl
        | 4, _ => rfl
        | 5, _ => rfl
        | 6, _ => rfl
        | 7, _ => rfl
        | 8, _ => rfl
        | 9, _ => rfl
        | 10, _ => rfl
        | 11, _ => rfl
        | 28, _ => rfl
        | 12, _ =>
          have h00 := ks_do_00 hk (Nat.le_refl 12)
          exact absurd (by rw [h00.1, h00.2]) e
theorem ks_wc (P : ks_P) (a b : ks_M) (o : ks_O) (v : Int32) : ∀ k, ks_do P k → tk_up (ks_sl P a b o) (12, 0, 0) 3 (.int v) k = ks_sl P a b (o.1, v) k := by
  intro k hk
  obtain ⟨g, c, d⟩ := k
  funext j
  by_cases e : (g, c, d) = (12, 0, 0)
  · cases e
    rw [tk_up_self]
    match j with
    | 0 => rfl
    | 1 => rfl
    | 2 => rfl
    | 3 => rfl
    | 4 => rfl
    | 5 => rfl
    | j + 6 =>
      show (if j + 6 = 3 then _ else _) = _
      rw [if_neg (by omega)]
      rfl
  · rw [tk_up_ne _ _ _ e]
    unfold ks_sl
    split
    · rfl
    · by_cases h13 : 13 ≤ g ∧ g ≤ 27
      · rw [ks_cs_arr P _ o h13.1 h13.2, ks_cs_arr P _ (o.1, v) h13.1 h13.2]
      · have hg : g ≤ 28 := ks_do_28 hk
        have hg2 : g < 12 ∨ g = 12 ∨ g = 28 := by omega
        match g, hg2 with
        | 0, _ => rfl
        | 1, _ => rfl
        | 2, _ => rfl
        | 3, _ => rfl
        | 4, _ => rfl
        | 5, _ => rfl
        | 6, _ => rfl
        | 7, _ => rfl
        | 8, _ => rfl
        | 9, _ => rfl
        | 10, _ => rfl
        | 11, _ => rfl
        | 28, _ => rfl
        | 12, _ =>
          have h00 := ks_do_00 hk (Nat.le_refl 12)
          exact absurd (by rw [h00.1, h00.2]) e
theorem ks_wo (P : ks_P) (a b : ks_M) (o : ks_O) (v : Int64) : ∀ k, ks_do P k → tk_up (ks_sl P a b o) (28, 0, 0) 0 (.long v) k = ks_sl P a b (v, o.2) k := by
  intro k hk
  obtain ⟨g, c, d⟩ := k
  funext j
  by_cases e : (g, c, d) = (28, 0, 0)
  · cases e
    rw [tk_up_self]
    match j with
    | 0 => rfl
    | j + 1 => rfl
  · rw [tk_up_ne _ _ _ e]
    unfold ks_sl
    split
    · rfl
    · by_cases h13 : 13 ≤ g ∧ g ≤ 27
      · rw [ks_cs_arr P _ o h13.1 h13.2, ks_cs_arr P _ (v, o.2) h13.1 h13.2]
      · have hg : g ≤ 28 := ks_do_28 hk
        have hg2 : g ≤ 12 ∨ g = 28 := by omega
        match g, hg2 with
        | 0, _ => rfl
        | 1, _ => rfl
        | 2, _ => rfl
        | 3, _ => rfl
        | 4, _ => rfl
        | 5, _ => rfl
        | 6, _ => rfl
        | 7, _ => rfl
        | 8, _ => rfl
        | 9, _ => rfl
        | 10, _ => rfl
        | 11, _ => rfl
        | 12, _ => rfl
        | 28, _ =>
          have h00 := ks_do_00 hk (show 12 ≤ 28 by decide)
          exact absurd (by rw [h00.1, h00.2]) e
theorem ks_d0 {P : ks_P} {f : Nat} (h : f = 0 ∨ f = 1 ∨ f = 2 ∨ f = 3 ∨ (12 ≤ f ∧ f ≤ 28)) : (ks_dm P).1 (f, 0, 0) := by
  show ks_do P (f, 0, 0)
  rcases h with rfl | rfl | rfl | rfl | ⟨h1, h2⟩
  · exact ⟨by decide, rfl, rfl⟩
  · exact ⟨by decide, rfl, rfl⟩
  · exact ⟨by decide, rfl, rfl⟩
  · exact ⟨by decide, rfl, rfl⟩
  · unfold ks_do
    match f, h1 with
    | f + 12, _ => exact ⟨h2, rfl, rfl⟩
theorem ks_d7 {P : ks_P} {c j : Nat} (hc : c < ks_n P) (hj : j < ks_T P) : (ks_dm P).1 (7, c, j) := ⟨hc, hj⟩
theorem ks_d4 {P : ks_P} {c : Nat} (hc : c < ks_n P) : (ks_dm P).1 (4, c, 0) := ⟨hc, rfl⟩
theorem ks_d5 {P : ks_P} {c : Nat} (hc : c < ks_n P) : (ks_dm P).1 (5, c, 0) := ⟨hc, rfl⟩
theorem ks_d6 {P : ks_P} {c : Nat} (hc : c < ks_n P) : (ks_dm P).1 (6, c, 0) := ⟨hc, rfl⟩
theorem ks_d8 {P : ks_P} {c : Nat} (hc : c < ks_n P) : (ks_dm P).1 (8, c, 0) := ⟨hc, rfl⟩
theorem ks_d9 {P : ks_P} {c : Nat} (hc : c < ks_n P) : (ks_dm P).1 (9, c, 0) := ⟨hc, rfl⟩
theorem ks_d10 {P : ks_P} {c : Nat} (hc : c < ks_n P) : (ks_dm P).1 (10, c, 0) := ⟨hc, rfl⟩
theorem ks_d11 {P : ks_P} {c : Nat} (hc : c < ks_n P) : (ks_dm P).1 (11, c, 0) := ⟨hc, rfl⟩
end
section
def ks_rm (d : Nat) : Room := { frames := d, cells := 0, slots := 0, locals := 40 * d }
section KW
variable {p : Program} {l : Launch} {e : Env} {R : Room} {s : State} {m : MethodId} {args : Array Value} {below : List Frame} {meth : Method} {c : Code} {P : ks_P} {nL cells slots : Nat} {Q : State → Prop} {a b : ks_M} {o : ks_O} {pc : Nat} {L : List (Option Value)} {st : List Value}
variable {own : String} {cc : ByteArray} {Ts : List Cond}
theorem kw_iald (X : tk_X p m c s args (ks_G P) own cc nL Ts) {k : tk_K} (hk : (ks_dm P).1 k) {len : Nat} (hkd : ks_kd P k = .inr (0, len)) (hlen : len ≤ 64) {x : Int32} {i : Nat} (hx : x = nI i) (hi : i < len) {v : Int32} (hv : ks_sl P a b o k i = .int v) (hdg : decode cc pc = .ok (.iaload, 1))
    (kk : tk_go p l e R s m args below meth c (ks_G P) (ks_dm P) nL cells slots Q (ks_sl P a b o) (pc + 1) L (.int v :: st)) : tk_go p l e R s m args below meth c (ks_G P) (ks_dm P) nL cells slots Q (ks_sl P a b o) pc L (.int x :: .ref (tk_ad (ks_G P) k) :: st) := by
  subst hx
  exact tk_iald X (dm := ks_dm P) (k := k) hk hkd rfl (vp_in_nI hi (by omega)) (by rw [nI_clamp (by omega)]; exact hv) hdg kk
theorem kw_zald (X : tk_X p m c s args (ks_G P) own cc nL Ts) {k : tk_K} (hk : (ks_dm P).1 k) {len : Nat} (hkd : ks_kd P k = .inr (1, len)) (hlen : len ≤ 64) {x : Int32} {i : Nat} (hx : x = nI i) (hi : i < len) {v : Int32} (hv : ks_sl P a b o k i = .int v) (hdg : decode cc pc = .ok (.baload, 1))
    (kk : tk_go p l e R s m args below meth c (ks_G P) (ks_dm P) nL cells slots Q (ks_sl P a b o) (pc + 1) L (.int v :: st)) : tk_go p l e R s m args below meth c (ks_G P) (ks_dm P) nL cells slots Q (ks_sl P a b o) pc L (.int x :: .ref (tk_ad (ks_G P) k) :: st) := by
  subst hx
  exact tk_zald X (dm := ks_dm P) (k := k) hk hkd rfl (vp_in_nI hi (by omega)) (by rw [nI_clamp (by omega)]; exact hv) hdg kk
theorem kw_core (X : tk_X p m c s args (ks_G P) own cc nL Ts) {x : Int32} {i : Nat} (hx : x = nI i) (hi : i < ks_n P) (hn : ks_n P ≤ 64) (hdg : decode cc pc = .ok (.aaload, 1))
    (kk : tk_go p l e R s m args below meth c (ks_G P) (ks_dm P) nL cells slots Q (ks_sl P a b o) (pc + 1) L (.ref (tk_ad (ks_G P) (4, i, 0)) :: st)) : tk_go p l e R s m args below meth c (ks_G P) (ks_dm P) nL cells slots Q (ks_sl P a b o) pc L (.int x :: .ref (tk_ad (ks_G P) (3, 0, 0)) :: st) := by
  subst hx
  exact tk_aald X (dm := ks_dm P) (k := (3, 0, 0)) (ks_d0 (by decide)) rfl rfl (vp_in_nI hi (by omega)) (by rw [nI_clamp (by omega)]; rfl) hdg kk
theorem kw_way (X : tk_X p m c s args (ks_G P) own cc nL Ts) {cr : Nat} (hc : cr < ks_n P) {x : Int32} {i : Nat} (hx : x = nI i) (hi : i < ks_T P) (hT : ks_T P ≤ 64) (hdg : decode cc pc = .ok (.aaload, 1))
    (kk : tk_go p l e R s m args below meth c (ks_G P) (ks_dm P) nL cells slots Q (ks_sl P a b o) (pc + 1) L (.ref (tk_ad (ks_G P) (7, cr, i)) :: st)) : tk_go p l e R s m args below meth c (ks_G P) (ks_dm P) nL cells slots Q (ks_sl P a b o) pc L (.int x :: .ref (tk_ad (ks_G P) (6, cr, 0)) :: st) := by
  subst hx
  exact tk_aald X (dm := ks_dm P) (k := (6, cr, 0)) (ks_d6 hc) rfl rfl (vp_in_nI hi (by omega)) (by rw [nI_clamp (by omega)]; rfl) hdg kk
theorem kw_iast (X : tk_X p m c s args (ks_G P) own cc nL Ts) {k : tk_K} (hk : (ks_dm P).1 k) {len : Nat} (hkd : ks_kd P k = .inr (0, len)) (hlen : len ≤ 64) {x : Int32} {i : Nat} (hx : x = nI i) (hi : i < len) (hint : ks_int k i = true) {v : Int32} (hdg : decode cc pc = .ok (.iastore, 1))
    (kk : tk_go p l e R s m args below meth c (ks_G P) (ks_dm P) nL cells slots Q (ks_sl P (ks_up a k i v) b o) (pc + 1) L st) : tk_go p l e R s m args below meth c (ks_G P) (ks_dm P) nL cells slots Q (ks_sl P a b o) pc L (.int v :: .int x :: .ref (tk_ad (ks_G P) k) :: st) := by
  subst hx
  refine tk_iast X (dm := ks_dm P) (k := k) hk hkd rfl (vp_in_nI hi (by omega)) rfl hdg ?_
  rw [nI_clamp (by omega), ks_wa P a b o hint]
  exact kk
theorem kr_iast (X : tk_X p m c s args (ks_G P) own cc nL Ts) (hP : ks_ok P) {f : Nat} (h1 : 13 ≤ f) (h2 : f ≤ 27) {len : Nat} (hkd : ks_kd P (f, 0, 0) = .inr (0, len)) (hlen : len ≤ 64) {x : Int32} {i : Nat} (hx : x = nI i) (hi : i < len) {k' : tk_K} {i' : Nat} (e1 : ks_vk (ks_S P) (ks_W P) f i = k') (e2 : ks_vi f i = i') {v : Int32} (hdg : decode cc pc = .ok (.iastore, 1))
    (kk : tk_go p l e R s m args below meth c (ks_G P) (ks_dm P) nL cells slots Q (ks_sl P a (ks_up b k' i' v) o) (pc + 1) L st) : tk_go p l e R s m args below meth c (ks_G P) (ks_dm P) nL cells slots Q (ks_sl P a b o) pc L (.int v :: .int x :: .ref (tk_ad (ks_G P) (f, 0, 0)) :: st) := by
  subst hx
  subst e1
  subst e2
  refine tk_iast X (dm := ks_dm P) (k := (f, 0, 0)) (ks_d0 (by omega)) hkd rfl (vp_in_nI hi (by omega)) rfl hdg ?_
  rw [nI_clamp (by omega)]
  exact tk_congr (ks_wb P hP a b o h1 h2 i v) kk
theorem kr_zast (X : tk_X p m c s args (ks_G P) own cc nL Ts) (hP : ks_ok P) {x : Int32} {i : Nat} (hx : x = nI i) (hi : i < 3) {v w : Int32} (hw : narrow .boolean (.int v) = .int w) (hdg : decode cc pc = .ok (.bastore, 1))
    (kk : tk_go p l e R s m args below meth c (ks_G P) (ks_dm P) nL cells slots Q (ks_sl P a (ks_up b (4, i, 0) 9 w) o) (pc + 1) L st) : tk_go p l e R s m args below meth c (ks_G P) (ks_dm P) nL cells slots Q (ks_sl P a b o) pc L (.int v :: .int x :: .ref (tk_ad (ks_G P) (20, 0, 0)) :: st) := by
  subst hx
  refine tk_zast X (dm := ks_dm P) (k := (20, 0, 0)) (ks_d0 (by decide)) rfl rfl (vp_in_nI hi (by decide)) hw hdg ?_
  rw [nI_clamp (by omega)]
  exact tk_congr (ks_wb P hP a b o (f := 20) (by decide) (by decide) i w) kk
theorem kr_iald (X : tk_X p m c s args (ks_G P) own cc nL Ts) {f : Nat} (h1 : 13 ≤ f) (h2 : f ≤ 27) {len : Nat} (hkd : ks_kd P (f, 0, 0) = .inr (0, len)) (hlen : len ≤ 64) {x : Int32} {i : Nat} (hx : x = nI i) (hi : i < len) {k' : tk_K} {i' : Nat} (e1 : ks_vk (ks_S P) (ks_W P) f i = k') (e2 : ks_vi f i = i') (hdg : decode cc pc = .ok (.iaload, 1))
    (kk : tk_go p l e R s m args below meth c (ks_G P) (ks_dm P) nL cells slots Q (ks_sl P a b o) (pc + 1) L (.int (b k' i') :: st)) : tk_go p l e R s m args below meth c (ks_G P) (ks_dm P) nL cells slots Q (ks_sl P a b o) pc L (.int x :: .ref (tk_ad (ks_G P) (f, 0, 0)) :: st) := by
  subst e1
  subst e2
  refine kw_iald X (ks_d0 (by omega)) hkd hlen hx hi ?_ hdg kk
  unfold ks_sl
  rw [ks_int_ref (by omega)]
  exact ks_cs_arr P b o h1 h2 0 0 i
theorem kw_put (X : tk_X p m c s args (ks_G P) own cc nL Ts) {k : tk_K} (hk : (ks_dm P).1 k) {ci : Nat} (hkd : ks_kd P k = .inl ci) {C : String} {T : u_T} {N : Nat} (hc : classes[ci]? = some (C, T, N)) (hin : ∀ w ∈ u_ws C T N, w ∈ Ts) (ty0 : Nat → FieldType) (hty : ∀ k, k < N → parseFieldDescriptor (T k).2.2.1 = some (ty0 k)) (hnm : ∀ a, a < N → ∀ b, b < N → a ≠ b → (T a).2.1 ≠ (T b).2.1) (j : Nat) (hj : j < N) (hint : ks_int k j = true) {index : Nat} (hlink : Cond.fieldLink own index (T j).1 (T j).2.1 (T j).2.2.1 ∈ Ts) (hfin : (T j).2.2.2 = false) {v : Int32} (hn : narrow (ty0 j) (.int v) = .int v) (hfit : fits (ty0 j) (.int v) = true) (hdg : decode cc pc = .ok (.putfield index, 3))
    (kk : tk_go p l e R s m args below meth c (ks_G P) (ks_dm P) nL cells slots Q (ks_sl P (ks_up a k j v) b o) (pc + 3) L st) : tk_go p l e R s m args below meth c (ks_G P) (ks_dm P) nL cells slots Q (ks_sl P a b o) pc L (.int v :: .ref (tk_ad (ks_G P) k) :: st) := by
  refine tk_put X (dm := ks_dm P) (k := k) hk hkd hc hin ty0 hty hnm j hj hlink hfin hn hfit hdg ?_
  rw [ks_wa P a b o hint]
  exact kk
theorem kw_putN (X : tk_X p m c s args (ks_G P) own cc nL Ts) {k : tk_K} (hk : (ks_dm P).1 k) {ci : Nat} (hkd : ks_kd P k = .inl ci) {C host : String} {T : u_T} {N : Nat} (hc : classes[ci]? = some (C, T, N)) (hin : ∀ w ∈ u_ws C T N, w ∈ Ts) (ty0 : Nat → FieldType) (hty : ∀ k, k < N → parseFieldDescriptor (T k).2.2.1 = some (ty0 k)) (hnm : ∀ a, a < N → ∀ b, b < N → a ≠ b → (T a).2.1 ≠ (T b).2.1) (j : Nat) (hj : j < N) (hint : ks_int k j = true) {index : Nat} (hlink : Cond.fieldLinkNest own index (T j).1 (T j).2.1 (T j).2.2.1 host ∈ NW) (hfin : (T j).2.2.2 = false) {v : Int32} (hn : narrow (ty0 j) (.int v) = .int v) (hfit : fits (ty0 j) (.int v) = true) (hdg : decode cc pc = .ok (.putfield index, 3))
    (kk : tk_go p l e R s m args below meth c (ks_G P) (ks_dm P) nL cells slots Q (ks_sl P (ks_up a k j v) b o) (pc + 3) L st) : tk_go p l e R s m args below meth c (ks_G P) (ks_dm P) nL cells slots Q (ks_sl P a b o) pc L (.int v :: .ref (tk_ad (ks_G P) k) :: st) := by
  refine tk_putN X (dm := ks_dm P) (k := k) hk hkd hc hin ty0 hty hnm j hj hlink hfin hn hfit hdg ?_
  rw [ks_wa P a b o hint]
  exact kk
theorem kr_put (X : tk_X p m c s args (ks_G P) own cc nL Ts) {C : String} {T : u_T} {N : Nat} (hc : classes[5]? = some (C, T, N)) (hin : ∀ w ∈ u_ws C T N, w ∈ Ts) (ty0 : Nat → FieldType) (hty : ∀ k, k < N → parseFieldDescriptor (T k).2.2.1 = some (ty0 k)) (hnm : ∀ a, a < N → ∀ b, b < N → a ≠ b → (T a).2.1 ≠ (T b).2.1) (j : Nat) (hj : j < N) (hj0 : j = 4 ∨ j = 5) {index : Nat} (hlink : Cond.fieldLink own index (T j).1 (T j).2.1 (T j).2.2.1 ∈ Ts) (hfin : (T j).2.2.2 = false) {v : Int32} (hn : narrow (ty0 j) (.int v) = .int v) (hfit : fits (ty0 j) (.int v) = true) (hdg : decode cc pc = .ok (.putfield index, 3))
    (kk : tk_go p l e R s m args below meth c (ks_G P) (ks_dm P) nL cells slots Q (ks_sl P a (ks_up b (ks_fk j).1 (ks_fk j).2 v) o) (pc + 3) L st) : tk_go p l e R s m args below meth c (ks_G P) (ks_dm P) nL cells slots Q (ks_sl P a b o) pc L (.int v :: .ref (tk_ad (ks_G P) (12, 0, 0)) :: st) :=
  tk_put X (dm := ks_dm P) (k := (12, 0, 0)) (ks_d0 (by decide)) rfl hc hin ty0 hty hnm j hj hlink hfin hn hfit hdg (tk_congr (ks_wf P a b o hj0 v) kk)
theorem kr_code (X : tk_X p m c s args (ks_G P) own cc nL Ts) {C : String} {T : u_T} {N : Nat} (hc : classes[5]? = some (C, T, N)) (hin : ∀ w ∈ u_ws C T N, w ∈ Ts) (ty0 : Nat → FieldType) (hty : ∀ k, k < N → parseFieldDescriptor (T k).2.2.1 = some (ty0 k)) (hnm : ∀ a, a < N → ∀ b, b < N → a ≠ b → (T a).2.1 ≠ (T b).2.1) (hj : 3 < N) {index : Nat} (hlink : Cond.fieldLink own index (T 3).1 (T 3).2.1 (T 3).2.2.1 ∈ Ts) (hfin : (T 3).2.2.2 = false) {v : Int32} (hn : narrow (ty0 3) (.int v) = .int v) (hfit : fits (ty0 3) (.int v) = true) (hdg : decode cc pc = .ok (.putfield index, 3))
    (kk : tk_go p l e R s m args below meth c (ks_G P) (ks_dm P) nL cells slots Q (ks_sl P a b (o.1, v)) (pc + 3) L st) : tk_go p l e R s m args below meth c (ks_G P) (ks_dm P) nL cells slots Q (ks_sl P a b o) pc L (.int v :: .ref (tk_ad (ks_G P) (12, 0, 0)) :: st) :=
  tk_put X (dm := ks_dm P) (k := (12, 0, 0)) (ks_d0 (by decide)) rfl hc hin ty0 hty hnm 3 hj hlink hfin hn hfit hdg (tk_congr (ks_wc P a b o v) kk)
end KW
abbrev kc (l : Launch) (P : ks_P) (y : MethodName) (cc : ByteArray) (nL : Nat) (ret : Option FieldType) (d : Nat) (As : List Value) (a b : ks_M) (o : ks_O) (r : Option Value) (a' b' : ks_M) (o' : ks_O) : Prop :=
  tk_M l (ks_G P) (ks_dm P) (ks_dm P) y (Cond.code y cc nL ret :: WS) (ks_rm d) As (ks_sl P a b o) r (ks_sl P a' b' o')
theorem ks_site {y : MethodName} {bytes : ByteArray} {maxL n : Nat} {ret : Option FieldType} {d d' : Nat} (hm : Cond.code y bytes maxL ret ∈ WS) (hini : Cond.initialized y.cls ∈ WS) (hd : y.cls ≠ "java/lang/invoke/MethodHandle" ∧ y.cls ≠ "java/lang/invoke/VarHandle" ∧ (parseMethodDescriptor y.desc).map (fun d => d.parameters.length) = some n) (hdd : d + 1 ≤ d') (hml : maxL ≤ 21) : tk_site (ks_rm d') WS y bytes maxL ret (Cond.code y bytes maxL ret :: WS) (ks_rm d) n :=
  ⟨tk_good hm WS_good, ⟨_, rfl⟩, hini, hd, hdd, by show 8 + (maxL + 11) + 40 * d ≤ 40 * d'; omega⟩
end
section
theorem d_TC_init_0 : decode b_TC_init 0 = .ok (.aload_n 0, 1) := by decide +kernel
theorem d_TC_init_1 : decode b_TC_init 1 = .ok (.invokespecial 1, 3) := by decide +kernel
theorem d_TC_init_4 : decode b_TC_init 4 = .ok (.iload_n 1, 1) := by decide +kernel
theorem d_TC_init_5 : decode b_TC_init 5 = .ok (.invokestatic 7, 3) := by decide +kernel
theorem d_TC_init_8 : decode b_TC_init 8 = .ok (.istore 4, 2) := by decide +kernel
theorem d_TC_init_10 : decode b_TC_init 10 = .ok (.aload_n 0, 1) := by decide +kernel
theorem d_TC_init_11 : decode b_TC_init 11 = .ok (.new 13, 3) := by decide +kernel
theorem d_TC_init_14 : decode b_TC_init 14 = .ok (.dup, 1) := by decide +kernel
theorem d_TC_init_15 : decode b_TC_init 15 = .ok (.invokespecial 15, 3) := by decide +kernel
theorem d_TC_init_18 : decode b_TC_init 18 = .ok (.putfield 16, 3) := by decide +kernel
theorem d_TC_init_21 : decode b_TC_init 21 = .ok (.aload_n 0, 1) := by decide +kernel
theorem d_TC_init_22 : decode b_TC_init 22 = .ok (.iload 4, 2) := by decide +kernel
theorem d_TC_init_24 : decode b_TC_init 24 = .ok (.anewarray 20, 3) := by decide +kernel
theorem d_TC_init_27 : decode b_TC_init 27 = .ok (.putfield 22, 3) := by decide +kernel
theorem d_TC_init_30 : decode b_TC_init 30 = .ok (.iconst 0, 1) := by decide +kernel
theorem d_TC_init_31 : decode b_TC_init 31 = .ok (.istore 5, 2) := by decide +kernel
theorem d_TC_init_33 : decode b_TC_init 33 = .ok (.iload 5, 2) := by decide +kernel
theorem d_TC_init_35 : decode b_TC_init 35 = .ok (.iload 4, 2) := by decide +kernel
theorem d_TC_init_37 : decode b_TC_init 37 = .ok (.if_icmp .ge 40, 3) := by decide +kernel
theorem d_TC_init_40 : decode b_TC_init 40 = .ok (.aload_n 0, 1) := by decide +kernel
theorem d_TC_init_41 : decode b_TC_init 41 = .ok (.getfield 22, 3) := by decide +kernel
theorem d_TC_init_44 : decode b_TC_init 44 = .ok (.iload 5, 2) := by decide +kernel
theorem d_TC_init_46 : decode b_TC_init 46 = .ok (.new 20, 3) := by decide +kernel
theorem d_TC_init_49 : decode b_TC_init 49 = .ok (.dup, 1) := by decide +kernel
theorem d_TC_init_50 : decode b_TC_init 50 = .ok (.iload 5, 2) := by decide +kernel
theorem d_TC_init_52 : decode b_TC_init 52 = .ok (.new 26, 3) := by decide +kernel
theorem d_TC_init_55 : decode b_TC_init 55 = .ok (.dup, 1) := by decide +kernel
theorem d_TC_init_56 : decode b_TC_init 56 = .ok (.iload_n 2, 1) := by decide +kernel
theorem d_TC_init_57 : decode b_TC_init 57 = .ok (.invokestatic 28, 3) := by decide +kernel
theorem d_TC_init_60 : decode b_TC_init 60 = .ok (.iload_n 3, 1) := by decide +kernel
theorem d_TC_init_61 : decode b_TC_init 61 = .ok (.invokestatic 7, 3) := by decide +kernel
theorem d_TC_init_64 : decode b_TC_init 64 = .ok (.invokespecial 31, 3) := by decide +kernel
theorem d_TC_init_67 : decode b_TC_init 67 = .ok (.invokespecial 34, 3) := by decide +kernel
theorem d_TC_init_70 : decode b_TC_init 70 = .ok (.aastore, 1) := by decide +kernel
theorem d_TC_init_71 : decode b_TC_init 71 = .ok (.iinc 5 1, 3) := by decide +kernel
theorem d_TC_init_74 : decode b_TC_init 74 = .ok (.goto (-41), 3) := by decide +kernel
theorem d_TC_init_77 : decode b_TC_init 77 = .ok (.return_, 1) := by decide +kernel
theorem d_TC_oneToThree_0 : decode b_TC_oneToThree 0 = .ok (.iconst 1, 1) := by decide +kernel
theorem d_TC_oneToThree_1 : decode b_TC_oneToThree 1 = .ok (.iconst 3, 1) := by decide +kernel
theorem d_TC_oneToThree_2 : decode b_TC_oneToThree 2 = .ok (.iload_n 0, 1) := by decide +kernel
theorem d_TC_oneToThree_3 : decode b_TC_oneToThree 3 = .ok (.invokestatic 131, 3) := by decide +kernel
theorem d_TC_oneToThree_6 : decode b_TC_oneToThree 6 = .ok (.invokestatic 137, 3) := by decide +kernel
theorem d_TC_oneToThree_9 : decode b_TC_oneToThree 9 = .ok (.ireturn, 1) := by decide +kernel
theorem d_Store_init_0 : decode b_Store_init 0 = .ok (.aload_n 0, 1) := by decide +kernel
theorem d_Store_init_1 : decode b_Store_init 1 = .ok (.invokespecial 3, 3) := by decide +kernel
theorem d_Store_init_4 : decode b_Store_init 4 = .ok (.aload_n 0, 1) := by decide +kernel
theorem d_Store_init_5 : decode b_Store_init 5 = .ok (.bipush 64, 2) := by decide +kernel
theorem d_Store_init_7 : decode b_Store_init 7 = .ok (.newarray .int, 2) := by decide +kernel
theorem d_Store_init_9 : decode b_Store_init 9 = .ok (.putfield 9, 3) := by decide +kernel
theorem d_Store_init_12 : decode b_Store_init 12 = .ok (.return_, 1) := by decide +kernel
theorem d_TC_nearestSets_0 : decode b_TC_nearestSets 0 = .ok (.iload_n 0, 1) := by decide +kernel
theorem d_TC_nearestSets_1 : decode b_TC_nearestSets 1 = .ok (.iconst 1, 1) := by decide +kernel
theorem d_TC_nearestSets_2 : decode b_TC_nearestSets 2 = .ok (.if_icmp .gt 5, 3) := by decide +kernel
theorem d_TC_nearestSets_5 : decode b_TC_nearestSets 5 = .ok (.iconst 1, 1) := by decide +kernel
theorem d_TC_nearestSets_6 : decode b_TC_nearestSets 6 = .ok (.ireturn, 1) := by decide +kernel
theorem d_TC_nearestSets_7 : decode b_TC_nearestSets 7 = .ok (.iload_n 0, 1) := by decide +kernel
theorem d_TC_nearestSets_8 : decode b_TC_nearestSets 8 = .ok (.iconst 3, 1) := by decide +kernel
theorem d_TC_nearestSets_9 : decode b_TC_nearestSets 9 = .ok (.if_icmp .gt 7, 3) := by decide +kernel
theorem d_TC_nearestSets_12 : decode b_TC_nearestSets 12 = .ok (.iconst 2, 1) := by decide +kernel
theorem d_TC_nearestSets_13 : decode b_TC_nearestSets 13 = .ok (.goto 4, 3) := by decide +kernel
theorem d_TC_nearestSets_16 : decode b_TC_nearestSets 16 = .ok (.iconst 4, 1) := by decide +kernel
theorem d_TC_nearestSets_17 : decode b_TC_nearestSets 17 = .ok (.ireturn, 1) := by decide +kernel
theorem d_Cache_init_0 : decode b_Cache_init 0 = .ok (.aload_n 0, 1) := by decide +kernel
theorem d_Cache_init_1 : decode b_Cache_init 1 = .ok (.invokespecial 3, 3) := by decide +kernel
theorem d_Cache_init_4 : decode b_Cache_init 4 = .ok (.aload_n 0, 1) := by decide +kernel
theorem d_Cache_init_5 : decode b_Cache_init 5 = .ok (.iload_n 1, 1) := by decide +kernel
theorem d_Cache_init_6 : decode b_Cache_init 6 = .ok (.putfield 9, 3) := by decide +kernel
theorem d_Cache_init_9 : decode b_Cache_init 9 = .ok (.aload_n 0, 1) := by decide +kernel
theorem d_Cache_init_10 : decode b_Cache_init 10 = .ok (.iload_n 2, 1) := by decide +kernel
theorem d_Cache_init_11 : decode b_Cache_init 11 = .ok (.putfield 15, 3) := by decide +kernel
theorem d_Cache_init_14 : decode b_Cache_init 14 = .ok (.aload_n 0, 1) := by decide +kernel
theorem d_Cache_init_15 : decode b_Cache_init 15 = .ok (.iload_n 1, 1) := by decide +kernel
theorem d_Cache_init_16 : decode b_Cache_init 16 = .ok (.iload_n 2, 1) := by decide +kernel
theorem d_Cache_init_17 : decode b_Cache_init 17 = .ok (.imul, 1) := by decide +kernel
theorem d_Cache_init_18 : decode b_Cache_init 18 = .ok (.anewarray 18, 3) := by decide +kernel
theorem d_Cache_init_21 : decode b_Cache_init 21 = .ok (.putfield 20, 3) := by decide +kernel
theorem d_Cache_init_24 : decode b_Cache_init 24 = .ok (.iconst 0, 1) := by decide +kernel
theorem d_Cache_init_25 : decode b_Cache_init 25 = .ok (.istore_n 3, 1) := by decide +kernel
theorem d_Cache_init_26 : decode b_Cache_init 26 = .ok (.iload_n 3, 1) := by decide +kernel
theorem d_Cache_init_27 : decode b_Cache_init 27 = .ok (.aload_n 0, 1) := by decide +kernel
theorem d_Cache_init_28 : decode b_Cache_init 28 = .ok (.getfield 20, 3) := by decide +kernel
theorem d_Cache_init_31 : decode b_Cache_init 31 = .ok (.arraylength, 1) := by decide +kernel
theorem d_Cache_init_32 : decode b_Cache_init 32 = .ok (.if_icmp .ge 22, 3) := by decide +kernel
theorem d_Cache_init_35 : decode b_Cache_init 35 = .ok (.aload_n 0, 1) := by decide +kernel
theorem d_Cache_init_36 : decode b_Cache_init 36 = .ok (.getfield 20, 3) := by decide +kernel
theorem d_Cache_init_39 : decode b_Cache_init 39 = .ok (.iload_n 3, 1) := by decide +kernel
theorem d_Cache_init_40 : decode b_Cache_init 40 = .ok (.new 18, 3) := by decide +kernel
theorem d_Cache_init_43 : decode b_Cache_init 43 = .ok (.dup, 1) := by decide +kernel
theorem d_Cache_init_44 : decode b_Cache_init 44 = .ok (.invokespecial 24, 3) := by decide +kernel
theorem d_Cache_init_47 : decode b_Cache_init 47 = .ok (.aastore, 1) := by decide +kernel
theorem d_Cache_init_48 : decode b_Cache_init 48 = .ok (.iinc 3 1, 3) := by decide +kernel
theorem d_Cache_init_51 : decode b_Cache_init 51 = .ok (.goto (-25), 3) := by decide +kernel
theorem d_Cache_init_54 : decode b_Cache_init 54 = .ok (.return_, 1) := by decide +kernel
theorem d_Way_init_0 : decode b_Way_init 0 = .ok (.aload_n 0, 1) := by decide +kernel
theorem d_Way_init_1 : decode b_Way_init 1 = .ok (.invokespecial 1, 3) := by decide +kernel
theorem d_Way_init_4 : decode b_Way_init 4 = .ok (.return_, 1) := by decide +kernel
theorem d_Core_init_0 : decode b_Core_init 0 = .ok (.aload_n 0, 1) := by decide +kernel
theorem d_Core_init_1 : decode b_Core_init 1 = .ok (.invokespecial 3, 3) := by decide +kernel
theorem d_Core_init_4 : decode b_Core_init 4 = .ok (.aload_n 0, 1) := by decide +kernel
theorem d_Core_init_5 : decode b_Core_init 5 = .ok (.bipush 16, 2) := by decide +kernel
theorem d_Core_init_7 : decode b_Core_init 7 = .ok (.newarray .int, 2) := by decide +kernel
theorem d_Core_init_9 : decode b_Core_init 9 = .ok (.putfield 9, 3) := by decide +kernel
theorem d_Core_init_12 : decode b_Core_init 12 = .ok (.aload_n 0, 1) := by decide +kernel
theorem d_Core_init_13 : decode b_Core_init 13 = .ok (.bipush 8, 2) := by decide +kernel
theorem d_Core_init_15 : decode b_Core_init 15 = .ok (.newarray .int, 2) := by decide +kernel
theorem d_Core_init_17 : decode b_Core_init 17 = .ok (.putfield 15, 3) := by decide +kernel
theorem d_Core_init_20 : decode b_Core_init 20 = .ok (.aload_n 0, 1) := by decide +kernel
theorem d_Core_init_21 : decode b_Core_init 21 = .ok (.bipush 8, 2) := by decide +kernel
theorem d_Core_init_23 : decode b_Core_init 23 = .ok (.newarray .int, 2) := by decide +kernel
theorem d_Core_init_25 : decode b_Core_init 25 = .ok (.putfield 18, 3) := by decide +kernel
theorem d_Core_init_28 : decode b_Core_init 28 = .ok (.aload_n 0, 1) := by decide +kernel
theorem d_Core_init_29 : decode b_Core_init 29 = .ok (.bipush 6, 2) := by decide +kernel
theorem d_Core_init_31 : decode b_Core_init 31 = .ok (.newarray .int, 2) := by decide +kernel
theorem d_Core_init_33 : decode b_Core_init 33 = .ok (.putfield 21, 3) := by decide +kernel
theorem d_Core_init_36 : decode b_Core_init 36 = .ok (.aload_n 0, 1) := by decide +kernel
theorem d_Core_init_37 : decode b_Core_init 37 = .ok (.iload_n 1, 1) := by decide +kernel
theorem d_Core_init_38 : decode b_Core_init 38 = .ok (.putfield 24, 3) := by decide +kernel
theorem d_Core_init_41 : decode b_Core_init 41 = .ok (.aload_n 0, 1) := by decide +kernel
theorem d_Core_init_42 : decode b_Core_init 42 = .ok (.aload_n 2, 1) := by decide +kernel
theorem d_Core_init_43 : decode b_Core_init 43 = .ok (.putfield 28, 3) := by decide +kernel
theorem d_Core_init_46 : decode b_Core_init 46 = .ok (.return_, 1) := by decide +kernel
theorem d_TC_poke_0 : decode b_TC_poke 0 = .ok (.aload_n 0, 1) := by decide +kernel
theorem d_TC_poke_1 : decode b_TC_poke 1 = .ok (.iconst (-1), 1) := by decide +kernel
theorem d_TC_poke_2 : decode b_TC_poke 2 = .ok (.iload_n 1, 1) := by decide +kernel
theorem d_TC_poke_3 : decode b_TC_poke 3 = .ok (.invokestatic 44, 3) := by decide +kernel
theorem d_TC_poke_6 : decode b_TC_poke 6 = .ok (.iconst 1, 1) := by decide +kernel
theorem d_TC_poke_7 : decode b_TC_poke 7 = .ok (.invokevirtual 47, 3) := by decide +kernel
theorem d_TC_poke_10 : decode b_TC_poke 10 = .ok (.aload_n 0, 1) := by decide +kernel
theorem d_TC_poke_11 : decode b_TC_poke 11 = .ok (.getfield 16, 3) := by decide +kernel
theorem d_TC_poke_14 : decode b_TC_poke 14 = .ok (.iload_n 1, 1) := by decide +kernel
theorem d_TC_poke_15 : decode b_TC_poke 15 = .ok (.iload_n 2, 1) := by decide +kernel
theorem d_TC_poke_16 : decode b_TC_poke 16 = .ok (.invokevirtual 51, 3) := by decide +kernel
theorem d_TC_poke_19 : decode b_TC_poke 19 = .ok (.return_, 1) := by decide +kernel
theorem d_TC_lineOf_0 : decode b_TC_lineOf 0 = .ok (.iload_n 0, 1) := by decide +kernel
theorem d_TC_lineOf_1 : decode b_TC_lineOf 1 = .ok (.bipush 63, 2) := by decide +kernel
theorem d_TC_lineOf_3 : decode b_TC_lineOf 3 = .ok (.iand, 1) := by decide +kernel
theorem d_TC_lineOf_4 : decode b_TC_lineOf 4 = .ok (.iconst 1, 1) := by decide +kernel
theorem d_TC_lineOf_5 : decode b_TC_lineOf 5 = .ok (.ishr, 1) := by decide +kernel
theorem d_TC_lineOf_6 : decode b_TC_lineOf 6 = .ok (.ireturn, 1) := by decide +kernel
theorem d_TC_sendRequest_0 : decode b_TC_sendRequest 0 = .ok (.iconst 0, 1) := by decide +kernel
theorem d_TC_sendRequest_1 : decode b_TC_sendRequest 1 = .ok (.istore 4, 2) := by decide +kernel
theorem d_TC_sendRequest_3 : decode b_TC_sendRequest 3 = .ok (.iload 4, 2) := by decide +kernel
theorem d_TC_sendRequest_5 : decode b_TC_sendRequest 5 = .ok (.aload_n 0, 1) := by decide +kernel
theorem d_TC_sendRequest_6 : decode b_TC_sendRequest 6 = .ok (.getfield 22, 3) := by decide +kernel
theorem d_TC_sendRequest_9 : decode b_TC_sendRequest 9 = .ok (.arraylength, 1) := by decide +kernel
theorem d_TC_sendRequest_10 : decode b_TC_sendRequest 10 = .ok (.if_icmp .ge 54, 3) := by decide +kernel
theorem d_TC_sendRequest_13 : decode b_TC_sendRequest 13 = .ok (.iload 4, 2) := by decide +kernel
theorem d_TC_sendRequest_15 : decode b_TC_sendRequest 15 = .ok (.iload_n 1, 1) := by decide +kernel
theorem d_TC_sendRequest_16 : decode b_TC_sendRequest 16 = .ok (.if_icmp .ne 7, 3) := by decide +kernel
theorem d_TC_sendRequest_19 : decode b_TC_sendRequest 19 = .ok (.aconst_null, 1) := by decide +kernel
theorem d_TC_sendRequest_20 : decode b_TC_sendRequest 20 = .ok (.goto 17, 3) := by decide +kernel
theorem d_TC_sendRequest_23 : decode b_TC_sendRequest 23 = .ok (.aload_n 0, 1) := by decide +kernel
theorem d_TC_sendRequest_24 : decode b_TC_sendRequest 24 = .ok (.getfield 22, 3) := by decide +kernel
theorem d_TC_sendRequest_27 : decode b_TC_sendRequest 27 = .ok (.iload 4, 2) := by decide +kernel
theorem d_TC_sendRequest_29 : decode b_TC_sendRequest 29 = .ok (.aaload, 1) := by decide +kernel
theorem d_TC_sendRequest_30 : decode b_TC_sendRequest 30 = .ok (.getfield 54, 3) := by decide +kernel
theorem d_TC_sendRequest_33 : decode b_TC_sendRequest 33 = .ok (.iload_n 2, 1) := by decide +kernel
theorem d_TC_sendRequest_34 : decode b_TC_sendRequest 34 = .ok (.invokevirtual 58, 3) := by decide +kernel
theorem d_TC_sendRequest_37 : decode b_TC_sendRequest 37 = .ok (.astore 5, 2) := by decide +kernel
theorem d_TC_sendRequest_39 : decode b_TC_sendRequest 39 = .ok (.aload 5, 2) := by decide +kernel
theorem d_TC_sendRequest_41 : decode b_TC_sendRequest 41 = .ok (.ifnull 17, 3) := by decide +kernel
theorem d_TC_sendRequest_44 : decode b_TC_sendRequest 44 = .ok (.aload_n 0, 1) := by decide +kernel
theorem d_TC_sendRequest_45 : decode b_TC_sendRequest 45 = .ok (.aload_n 0, 1) := by decide +kernel
theorem d_TC_sendRequest_46 : decode b_TC_sendRequest 46 = .ok (.getfield 22, 3) := by decide +kernel
theorem d_TC_sendRequest_49 : decode b_TC_sendRequest 49 = .ok (.iload 4, 2) := by decide +kernel
theorem d_TC_sendRequest_51 : decode b_TC_sendRequest 51 = .ok (.aaload, 1) := by decide +kernel
theorem d_TC_sendRequest_52 : decode b_TC_sendRequest 52 = .ok (.aload 5, 2) := by decide +kernel
theorem d_TC_sendRequest_54 : decode b_TC_sendRequest 54 = .ok (.iload_n 3, 1) := by decide +kernel
theorem d_TC_sendRequest_55 : decode b_TC_sendRequest 55 = .ok (.invokevirtual 214, 3) := by decide +kernel
theorem d_TC_sendRequest_58 : decode b_TC_sendRequest 58 = .ok (.iinc 4 1, 3) := by decide +kernel
theorem d_TC_sendRequest_61 : decode b_TC_sendRequest 61 = .ok (.goto (-58), 3) := by decide +kernel
theorem d_TC_sendRequest_64 : decode b_TC_sendRequest 64 = .ok (.return_, 1) := by decide +kernel
theorem d_Cache_find_0 : decode b_Cache_find 0 = .ok (.aload_n 0, 1) := by decide +kernel
theorem d_Cache_find_1 : decode b_Cache_find 1 = .ok (.iload_n 1, 1) := by decide +kernel
theorem d_Cache_find_2 : decode b_Cache_find 2 = .ok (.invokevirtual 25, 3) := by decide +kernel
theorem d_Cache_find_5 : decode b_Cache_find 5 = .ok (.istore_n 2, 1) := by decide +kernel
theorem d_Cache_find_6 : decode b_Cache_find 6 = .ok (.iload_n 2, 1) := by decide +kernel
theorem d_Cache_find_7 : decode b_Cache_find 7 = .ok (.istore_n 3, 1) := by decide +kernel
theorem d_Cache_find_8 : decode b_Cache_find 8 = .ok (.iload_n 3, 1) := by decide +kernel
theorem d_Cache_find_9 : decode b_Cache_find 9 = .ok (.iload_n 2, 1) := by decide +kernel
theorem d_Cache_find_10 : decode b_Cache_find 10 = .ok (.aload_n 0, 1) := by decide +kernel
theorem d_Cache_find_11 : decode b_Cache_find 11 = .ok (.getfield 15, 3) := by decide +kernel
theorem d_Cache_find_14 : decode b_Cache_find 14 = .ok (.iadd, 1) := by decide +kernel
theorem d_Cache_find_15 : decode b_Cache_find 15 = .ok (.if_icmp .ge 41, 3) := by decide +kernel
theorem d_Cache_find_18 : decode b_Cache_find 18 = .ok (.aload_n 0, 1) := by decide +kernel
theorem d_Cache_find_19 : decode b_Cache_find 19 = .ok (.getfield 20, 3) := by decide +kernel
theorem d_Cache_find_22 : decode b_Cache_find 22 = .ok (.iload_n 3, 1) := by decide +kernel
theorem d_Cache_find_23 : decode b_Cache_find 23 = .ok (.aaload, 1) := by decide +kernel
theorem d_Cache_find_24 : decode b_Cache_find 24 = .ok (.getfield 29, 3) := by decide +kernel
theorem d_Cache_find_27 : decode b_Cache_find 27 = .ok (.ifCond .eq 23, 3) := by decide +kernel
theorem d_Cache_find_30 : decode b_Cache_find 30 = .ok (.aload_n 0, 1) := by decide +kernel
theorem d_Cache_find_31 : decode b_Cache_find 31 = .ok (.getfield 20, 3) := by decide +kernel
theorem d_Cache_find_34 : decode b_Cache_find 34 = .ok (.iload_n 3, 1) := by decide +kernel
theorem d_Cache_find_35 : decode b_Cache_find 35 = .ok (.aaload, 1) := by decide +kernel
theorem d_Cache_find_36 : decode b_Cache_find 36 = .ok (.getfield 32, 3) := by decide +kernel
theorem d_Cache_find_39 : decode b_Cache_find 39 = .ok (.iload_n 1, 1) := by decide +kernel
theorem d_Cache_find_40 : decode b_Cache_find 40 = .ok (.if_icmp .ne 10, 3) := by decide +kernel
theorem d_Cache_find_43 : decode b_Cache_find 43 = .ok (.aload_n 0, 1) := by decide +kernel
theorem d_Cache_find_44 : decode b_Cache_find 44 = .ok (.getfield 20, 3) := by decide +kernel
theorem d_Cache_find_47 : decode b_Cache_find 47 = .ok (.iload_n 3, 1) := by decide +kernel
theorem d_Cache_find_48 : decode b_Cache_find 48 = .ok (.aaload, 1) := by decide +kernel
theorem d_Cache_find_49 : decode b_Cache_find 49 = .ok (.areturn, 1) := by decide +kernel
theorem d_Cache_find_50 : decode b_Cache_find 50 = .ok (.iinc 3 1, 3) := by decide +kernel
theorem d_Cache_find_53 : decode b_Cache_find 53 = .ok (.goto (-45), 3) := by decide +kernel
theorem d_Cache_find_56 : decode b_Cache_find 56 = .ok (.aconst_null, 1) := by decide +kernel
theorem d_Cache_find_57 : decode b_Cache_find 57 = .ok (.areturn, 1) := by decide +kernel
theorem d_Cache_firstOfSet_0 : decode b_Cache_firstOfSet 0 = .ok (.iload_n 1, 1) := by decide +kernel
theorem d_Cache_firstOfSet_1 : decode b_Cache_firstOfSet 1 = .ok (.aload_n 0, 1) := by decide +kernel
theorem d_Cache_firstOfSet_2 : decode b_Cache_firstOfSet 2 = .ok (.getfield 9, 3) := by decide +kernel
theorem d_Cache_firstOfSet_5 : decode b_Cache_firstOfSet 5 = .ok (.iconst 1, 1) := by decide +kernel
theorem d_Cache_firstOfSet_6 : decode b_Cache_firstOfSet 6 = .ok (.isub, 1) := by decide +kernel
theorem d_Cache_firstOfSet_7 : decode b_Cache_firstOfSet 7 = .ok (.iand, 1) := by decide +kernel
theorem d_Cache_firstOfSet_8 : decode b_Cache_firstOfSet 8 = .ok (.aload_n 0, 1) := by decide +kernel
theorem d_Cache_firstOfSet_9 : decode b_Cache_firstOfSet 9 = .ok (.getfield 15, 3) := by decide +kernel
theorem d_Cache_firstOfSet_12 : decode b_Cache_firstOfSet 12 = .ok (.imul, 1) := by decide +kernel
theorem d_Cache_firstOfSet_13 : decode b_Cache_firstOfSet 13 = .ok (.ireturn, 1) := by decide +kernel
theorem d_TC_meetRequest_0 : decode b_TC_meetRequest 0 = .ok (.aload_n 2, 1) := by decide +kernel
theorem d_TC_meetRequest_1 : decode b_TC_meetRequest 1 = .ok (.getfield 68, 3) := by decide +kernel
theorem d_TC_meetRequest_4 : decode b_TC_meetRequest 4 = .ok (.iconst 2, 1) := by decide +kernel
theorem d_TC_meetRequest_5 : decode b_TC_meetRequest 5 = .ok (.iand, 1) := by decide +kernel
theorem d_TC_meetRequest_6 : decode b_TC_meetRequest 6 = .ok (.ifCond .ne 14, 3) := by decide +kernel
theorem d_TC_meetRequest_9 : decode b_TC_meetRequest 9 = .ok (.iload_n 3, 1) := by decide +kernel
theorem d_TC_meetRequest_10 : decode b_TC_meetRequest 10 = .ok (.ifCond .eq 17, 3) := by decide +kernel
theorem d_TC_meetRequest_13 : decode b_TC_meetRequest 13 = .ok (.aload_n 2, 1) := by decide +kernel
theorem d_TC_meetRequest_14 : decode b_TC_meetRequest 14 = .ok (.getfield 68, 3) := by decide +kernel
theorem d_TC_meetRequest_17 : decode b_TC_meetRequest 17 = .ok (.ifCond .eq 10, 3) := by decide +kernel
theorem d_TC_meetRequest_20 : decode b_TC_meetRequest 20 = .ok (.aload_n 1, 1) := by decide +kernel
theorem d_TC_meetRequest_21 : decode b_TC_meetRequest 21 = .ok (.iconst 1, 1) := by decide +kernel
theorem d_TC_meetRequest_22 : decode b_TC_meetRequest 22 = .ok (.iconst 0, 1) := by decide +kernel
theorem d_TC_meetRequest_23 : decode b_TC_meetRequest 23 = .ok (.invokevirtual 187, 3) := by decide +kernel
theorem d_TC_meetRequest_26 : decode b_TC_meetRequest 26 = .ok (.pop, 1) := by decide +kernel
theorem d_TC_meetRequest_27 : decode b_TC_meetRequest 27 = .ok (.aload_n 2, 1) := by decide +kernel
theorem d_TC_meetRequest_28 : decode b_TC_meetRequest 28 = .ok (.getfield 62, 3) := by decide +kernel
theorem d_TC_meetRequest_31 : decode b_TC_meetRequest 31 = .ok (.ifCond .ne 4, 3) := by decide +kernel
theorem d_TC_meetRequest_34 : decode b_TC_meetRequest 34 = .ok (.return_, 1) := by decide +kernel
theorem d_TC_meetRequest_35 : decode b_TC_meetRequest 35 = .ok (.aload_n 2, 1) := by decide +kernel
theorem d_TC_meetRequest_36 : decode b_TC_meetRequest 36 = .ok (.getfield 62, 3) := by decide +kernel
theorem d_TC_meetRequest_39 : decode b_TC_meetRequest 39 = .ok (.iconst 2, 1) := by decide +kernel
theorem d_TC_meetRequest_40 : decode b_TC_meetRequest 40 = .ok (.if_icmp .ne 11, 3) := by decide +kernel
theorem d_TC_meetRequest_43 : decode b_TC_meetRequest 43 = .ok (.aload_n 0, 1) := by decide +kernel
theorem d_TC_meetRequest_44 : decode b_TC_meetRequest 44 = .ok (.getfield 16, 3) := by decide +kernel
theorem d_TC_meetRequest_47 : decode b_TC_meetRequest 47 = .ok (.aload_n 2, 1) := by decide +kernel
theorem d_TC_meetRequest_48 : decode b_TC_meetRequest 48 = .ok (.invokevirtual 207, 3) := by decide +kernel
theorem d_TC_meetRequest_51 : decode b_TC_meetRequest 51 = .ok (.aload_n 2, 1) := by decide +kernel
theorem d_TC_meetRequest_52 : decode b_TC_meetRequest 52 = .ok (.iload_n 3, 1) := by decide +kernel
theorem d_TC_meetRequest_53 : decode b_TC_meetRequest 53 = .ok (.ifCond .eq 7, 3) := by decide +kernel
theorem d_TC_meetRequest_56 : decode b_TC_meetRequest 56 = .ok (.iconst 0, 1) := by decide +kernel
theorem d_TC_meetRequest_57 : decode b_TC_meetRequest 57 = .ok (.goto 4, 3) := by decide +kernel
theorem d_TC_meetRequest_60 : decode b_TC_meetRequest 60 = .ok (.iconst 1, 1) := by decide +kernel
theorem d_TC_meetRequest_61 : decode b_TC_meetRequest 61 = .ok (.putfield 62, 3) := by decide +kernel
theorem d_TC_meetRequest_64 : decode b_TC_meetRequest 64 = .ok (.return_, 1) := by decide +kernel
theorem d_Core_abort_0 : decode b_Core_abort 0 = .ok (.aload_n 0, 1) := by decide +kernel
theorem d_Core_abort_1 : decode b_Core_abort 1 = .ok (.getfield 28, 3) := by decide +kernel
theorem d_Core_abort_4 : decode b_Core_abort 4 = .ok (.invokevirtual 79, 3) := by decide +kernel
theorem d_Core_abort_7 : decode b_Core_abort 7 = .ok (.aload_n 0, 1) := by decide +kernel
theorem d_Core_abort_8 : decode b_Core_abort 8 = .ok (.getfield 28, 3) := by decide +kernel
theorem d_Core_abort_11 : decode b_Core_abort 11 = .ok (.invokevirtual 70, 3) := by decide +kernel
theorem d_Core_abort_14 : decode b_Core_abort 14 = .ok (.aload_n 0, 1) := by decide +kernel
theorem d_Core_abort_15 : decode b_Core_abort 15 = .ok (.getfield 18, 3) := by decide +kernel
theorem d_Core_abort_18 : decode b_Core_abort 18 = .ok (.iconst 0, 1) := by decide +kernel
theorem d_Core_abort_19 : decode b_Core_abort 19 = .ok (.aload_n 0, 1) := by decide +kernel
theorem d_Core_abort_20 : decode b_Core_abort 20 = .ok (.getfield 15, 3) := by decide +kernel
theorem d_Core_abort_23 : decode b_Core_abort 23 = .ok (.iconst 0, 1) := by decide +kernel
theorem d_Core_abort_24 : decode b_Core_abort 24 = .ok (.bipush 8, 2) := by decide +kernel
theorem d_Core_abort_26 : decode b_Core_abort 26 = .ok (.invokestatic 61, 3) := by decide +kernel
theorem d_Core_abort_29 : decode b_Core_abort 29 = .ok (.aload_n 0, 1) := by decide +kernel
theorem d_Core_abort_30 : decode b_Core_abort 30 = .ok (.getfield 15, 3) := by decide +kernel
theorem d_Core_abort_33 : decode b_Core_abort 33 = .ok (.bipush 7, 2) := by decide +kernel
theorem d_Core_abort_35 : decode b_Core_abort 35 = .ok (.iload_n 1, 1) := by decide +kernel
theorem d_Core_abort_36 : decode b_Core_abort 36 = .ok (.iload_n 2, 1) := by decide +kernel
theorem d_Core_abort_37 : decode b_Core_abort 37 = .ok (.iadd, 1) := by decide +kernel
theorem d_Core_abort_38 : decode b_Core_abort 38 = .ok (.iastore, 1) := by decide +kernel
theorem d_Core_abort_39 : decode b_Core_abort 39 = .ok (.aload_n 0, 1) := by decide +kernel
theorem d_Core_abort_40 : decode b_Core_abort 40 = .ok (.aload_n 0, 1) := by decide +kernel
theorem d_Core_abort_41 : decode b_Core_abort 41 = .ok (.getfield 67, 3) := by decide +kernel
theorem d_Core_abort_44 : decode b_Core_abort 44 = .ok (.putfield 51, 3) := by decide +kernel
theorem d_Core_abort_47 : decode b_Core_abort 47 = .ok (.aload_n 0, 1) := by decide +kernel
theorem d_Core_abort_48 : decode b_Core_abort 48 = .ok (.iconst 0, 1) := by decide +kernel
theorem d_Core_abort_49 : decode b_Core_abort 49 = .ok (.putfield 48, 3) := by decide +kernel
theorem d_Core_abort_52 : decode b_Core_abort 52 = .ok (.aload_n 0, 1) := by decide +kernel
theorem d_Core_abort_53 : decode b_Core_abort 53 = .ok (.getfield 21, 3) := by decide +kernel
theorem d_Core_abort_56 : decode b_Core_abort 56 = .ok (.iload_n 1, 1) := by decide +kernel
theorem d_Core_abort_57 : decode b_Core_abort 57 = .ok (.dup2, 1) := by decide +kernel
theorem d_Core_abort_58 : decode b_Core_abort 58 = .ok (.iaload, 1) := by decide +kernel
theorem d_Core_abort_59 : decode b_Core_abort 59 = .ok (.iconst 1, 1) := by decide +kernel
theorem d_Core_abort_60 : decode b_Core_abort 60 = .ok (.iadd, 1) := by decide +kernel
theorem d_Core_abort_61 : decode b_Core_abort 61 = .ok (.iastore, 1) := by decide +kernel
theorem d_Core_abort_62 : decode b_Core_abort 62 = .ok (.iconst 2, 1) := by decide +kernel
theorem d_Core_abort_63 : decode b_Core_abort 63 = .ok (.ireturn, 1) := by decide +kernel
theorem d_Cache_dropWritten_0 : decode b_Cache_dropWritten 0 = .ok (.iconst 0, 1) := by decide +kernel
theorem d_Cache_dropWritten_1 : decode b_Cache_dropWritten 1 = .ok (.istore_n 1, 1) := by decide +kernel
theorem d_Cache_dropWritten_2 : decode b_Cache_dropWritten 2 = .ok (.iload_n 1, 1) := by decide +kernel
theorem d_Cache_dropWritten_3 : decode b_Cache_dropWritten 3 = .ok (.aload_n 0, 1) := by decide +kernel
theorem d_Cache_dropWritten_4 : decode b_Cache_dropWritten 4 = .ok (.getfield 20, 3) := by decide +kernel
theorem d_Cache_dropWritten_7 : decode b_Cache_dropWritten 7 = .ok (.arraylength, 1) := by decide +kernel
theorem d_Cache_dropWritten_8 : decode b_Cache_dropWritten 8 = .ok (.if_icmp .ge 33, 3) := by decide +kernel
theorem d_Cache_dropWritten_11 : decode b_Cache_dropWritten 11 = .ok (.aload_n 0, 1) := by decide +kernel
theorem d_Cache_dropWritten_12 : decode b_Cache_dropWritten 12 = .ok (.getfield 20, 3) := by decide +kernel
theorem d_Cache_dropWritten_15 : decode b_Cache_dropWritten 15 = .ok (.iload_n 1, 1) := by decide +kernel
theorem d_Cache_dropWritten_16 : decode b_Cache_dropWritten 16 = .ok (.aaload, 1) := by decide +kernel
theorem d_Cache_dropWritten_17 : decode b_Cache_dropWritten 17 = .ok (.getfield 35, 3) := by decide +kernel
theorem d_Cache_dropWritten_20 : decode b_Cache_dropWritten 20 = .ok (.iconst 2, 1) := by decide +kernel
theorem d_Cache_dropWritten_21 : decode b_Cache_dropWritten 21 = .ok (.iand, 1) := by decide +kernel
theorem d_Cache_dropWritten_22 : decode b_Cache_dropWritten 22 = .ok (.ifCond .eq 13, 3) := by decide +kernel
theorem d_Cache_dropWritten_25 : decode b_Cache_dropWritten 25 = .ok (.aload_n 0, 1) := by decide +kernel
theorem d_Cache_dropWritten_26 : decode b_Cache_dropWritten 26 = .ok (.getfield 20, 3) := by decide +kernel
theorem d_Cache_dropWritten_29 : decode b_Cache_dropWritten 29 = .ok (.iload_n 1, 1) := by decide +kernel
theorem d_Cache_dropWritten_30 : decode b_Cache_dropWritten 30 = .ok (.aaload, 1) := by decide +kernel
theorem d_Cache_dropWritten_31 : decode b_Cache_dropWritten 31 = .ok (.iconst 0, 1) := by decide +kernel
theorem d_Cache_dropWritten_32 : decode b_Cache_dropWritten 32 = .ok (.putfield 29, 3) := by decide +kernel
theorem d_Cache_dropWritten_35 : decode b_Cache_dropWritten 35 = .ok (.iinc 1 1, 3) := by decide +kernel
theorem d_Cache_dropWritten_38 : decode b_Cache_dropWritten 38 = .ok (.goto (-36), 3) := by decide +kernel
theorem d_Cache_dropWritten_41 : decode b_Cache_dropWritten 41 = .ok (.return_, 1) := by decide +kernel
theorem d_Cache_dropMarks_0 : decode b_Cache_dropMarks 0 = .ok (.iconst 0, 1) := by decide +kernel
theorem d_Cache_dropMarks_1 : decode b_Cache_dropMarks 1 = .ok (.istore_n 1, 1) := by decide +kernel
theorem d_Cache_dropMarks_2 : decode b_Cache_dropMarks 2 = .ok (.iload_n 1, 1) := by decide +kernel
theorem d_Cache_dropMarks_3 : decode b_Cache_dropMarks 3 = .ok (.aload_n 0, 1) := by decide +kernel
theorem d_Cache_dropMarks_4 : decode b_Cache_dropMarks 4 = .ok (.getfield 20, 3) := by decide +kernel
theorem d_Cache_dropMarks_7 : decode b_Cache_dropMarks 7 = .ok (.arraylength, 1) := by decide +kernel
theorem d_Cache_dropMarks_8 : decode b_Cache_dropMarks 8 = .ok (.if_icmp .ge 19, 3) := by decide +kernel
theorem d_Cache_dropMarks_11 : decode b_Cache_dropMarks 11 = .ok (.aload_n 0, 1) := by decide +kernel
theorem d_Cache_dropMarks_12 : decode b_Cache_dropMarks 12 = .ok (.getfield 20, 3) := by decide +kernel
theorem d_Cache_dropMarks_15 : decode b_Cache_dropMarks 15 = .ok (.iload_n 1, 1) := by decide +kernel
theorem d_Cache_dropMarks_16 : decode b_Cache_dropMarks 16 = .ok (.aaload, 1) := by decide +kernel
theorem d_Cache_dropMarks_17 : decode b_Cache_dropMarks 17 = .ok (.iconst 0, 1) := by decide +kernel
theorem d_Cache_dropMarks_18 : decode b_Cache_dropMarks 18 = .ok (.putfield 35, 3) := by decide +kernel
theorem d_Cache_dropMarks_21 : decode b_Cache_dropMarks 21 = .ok (.iinc 1 1, 3) := by decide +kernel
theorem d_Cache_dropMarks_24 : decode b_Cache_dropMarks 24 = .ok (.goto (-22), 3) := by decide +kernel
theorem d_Cache_dropMarks_27 : decode b_Cache_dropMarks 27 = .ok (.return_, 1) := by decide +kernel
theorem d_Store_keep_0 : decode b_Store_keep 0 = .ok (.aload_n 0, 1) := by decide +kernel
theorem d_Store_keep_1 : decode b_Store_keep 1 = .ok (.iconst 2, 1) := by decide +kernel
theorem d_Store_keep_2 : decode b_Store_keep 2 = .ok (.aload_n 1, 1) := by decide +kernel
theorem d_Store_keep_3 : decode b_Store_keep 3 = .ok (.getfield 15, 3) := by decide +kernel
theorem d_Store_keep_6 : decode b_Store_keep 6 = .ok (.imul, 1) := by decide +kernel
theorem d_Store_keep_7 : decode b_Store_keep 7 = .ok (.aload_n 1, 1) := by decide +kernel
theorem d_Store_keep_8 : decode b_Store_keep 8 = .ok (.getfield 21, 3) := by decide +kernel
theorem d_Store_keep_11 : decode b_Store_keep 11 = .ok (.invokevirtual 24, 3) := by decide +kernel
theorem d_Store_keep_14 : decode b_Store_keep 14 = .ok (.aload_n 0, 1) := by decide +kernel
theorem d_Store_keep_15 : decode b_Store_keep 15 = .ok (.iconst 2, 1) := by decide +kernel
theorem d_Store_keep_16 : decode b_Store_keep 16 = .ok (.aload_n 1, 1) := by decide +kernel
theorem d_Store_keep_17 : decode b_Store_keep 17 = .ok (.getfield 15, 3) := by decide +kernel
theorem d_Store_keep_20 : decode b_Store_keep 20 = .ok (.imul, 1) := by decide +kernel
theorem d_Store_keep_21 : decode b_Store_keep 21 = .ok (.iconst 1, 1) := by decide +kernel
theorem d_Store_keep_22 : decode b_Store_keep 22 = .ok (.iadd, 1) := by decide +kernel
theorem d_Store_keep_23 : decode b_Store_keep 23 = .ok (.aload_n 1, 1) := by decide +kernel
theorem d_Store_keep_24 : decode b_Store_keep 24 = .ok (.getfield 28, 3) := by decide +kernel
theorem d_Store_keep_27 : decode b_Store_keep 27 = .ok (.invokevirtual 24, 3) := by decide +kernel
theorem d_Store_keep_30 : decode b_Store_keep 30 = .ok (.return_, 1) := by decide +kernel
theorem d_Store_put_0 : decode b_Store_put 0 = .ok (.aload_n 0, 1) := by decide +kernel
theorem d_Store_put_1 : decode b_Store_put 1 = .ok (.getfield 9, 3) := by decide +kernel
theorem d_Store_put_4 : decode b_Store_put 4 = .ok (.iload_n 1, 1) := by decide +kernel
theorem d_Store_put_5 : decode b_Store_put 5 = .ok (.bipush 63, 2) := by decide +kernel
theorem d_Store_put_7 : decode b_Store_put 7 = .ok (.iand, 1) := by decide +kernel
theorem d_Store_put_8 : decode b_Store_put 8 = .ok (.iload_n 2, 1) := by decide +kernel
theorem d_Store_put_9 : decode b_Store_put 9 = .ok (.iastore, 1) := by decide +kernel
theorem d_Store_put_10 : decode b_Store_put 10 = .ok (.return_, 1) := by decide +kernel
theorem d_TC_peek_0 : decode b_TC_peek 0 = .ok (.iload_n 1, 1) := by decide +kernel
theorem d_TC_peek_1 : decode b_TC_peek 1 = .ok (.invokestatic 44, 3) := by decide +kernel
theorem d_TC_peek_4 : decode b_TC_peek 4 = .ok (.istore_n 2, 1) := by decide +kernel
theorem d_TC_peek_5 : decode b_TC_peek 5 = .ok (.iconst 0, 1) := by decide +kernel
theorem d_TC_peek_6 : decode b_TC_peek 6 = .ok (.istore_n 3, 1) := by decide +kernel
theorem d_TC_peek_7 : decode b_TC_peek 7 = .ok (.iload_n 3, 1) := by decide +kernel
theorem d_TC_peek_8 : decode b_TC_peek 8 = .ok (.aload_n 0, 1) := by decide +kernel
theorem d_TC_peek_9 : decode b_TC_peek 9 = .ok (.getfield 22, 3) := by decide +kernel
theorem d_TC_peek_12 : decode b_TC_peek 12 = .ok (.arraylength, 1) := by decide +kernel
theorem d_TC_peek_13 : decode b_TC_peek 13 = .ok (.if_icmp .ge 55, 3) := by decide +kernel
theorem d_TC_peek_16 : decode b_TC_peek 16 = .ok (.aload_n 0, 1) := by decide +kernel
theorem d_TC_peek_17 : decode b_TC_peek 17 = .ok (.getfield 22, 3) := by decide +kernel
theorem d_TC_peek_20 : decode b_TC_peek 20 = .ok (.iload_n 3, 1) := by decide +kernel
theorem d_TC_peek_21 : decode b_TC_peek 21 = .ok (.aaload, 1) := by decide +kernel
theorem d_TC_peek_22 : decode b_TC_peek 22 = .ok (.getfield 54, 3) := by decide +kernel
theorem d_TC_peek_25 : decode b_TC_peek 25 = .ok (.iload_n 2, 1) := by decide +kernel
theorem d_TC_peek_26 : decode b_TC_peek 26 = .ok (.invokevirtual 58, 3) := by decide +kernel
theorem d_TC_peek_29 : decode b_TC_peek 29 = .ok (.astore 4, 2) := by decide +kernel
theorem d_TC_peek_31 : decode b_TC_peek 31 = .ok (.aload 4, 2) := by decide +kernel
theorem d_TC_peek_33 : decode b_TC_peek 33 = .ok (.ifnull 29, 3) := by decide +kernel
theorem d_TC_peek_36 : decode b_TC_peek 36 = .ok (.aload 4, 2) := by decide +kernel
theorem d_TC_peek_38 : decode b_TC_peek 38 = .ok (.getfield 62, 3) := by decide +kernel
theorem d_TC_peek_41 : decode b_TC_peek 41 = .ok (.iconst 2, 1) := by decide +kernel
theorem d_TC_peek_42 : decode b_TC_peek 42 = .ok (.if_icmp .ne 20, 3) := by decide +kernel
theorem d_TC_peek_45 : decode b_TC_peek 45 = .ok (.aload 4, 2) := by decide +kernel
theorem d_TC_peek_47 : decode b_TC_peek 47 = .ok (.getfield 68, 3) := by decide +kernel
theorem d_TC_peek_50 : decode b_TC_peek 50 = .ok (.iconst 2, 1) := by decide +kernel
theorem d_TC_peek_51 : decode b_TC_peek 51 = .ok (.iand, 1) := by decide +kernel
theorem d_TC_peek_52 : decode b_TC_peek 52 = .ok (.ifCond .ne 10, 3) := by decide +kernel
theorem d_TC_peek_55 : decode b_TC_peek 55 = .ok (.aload 4, 2) := by decide +kernel
theorem d_TC_peek_57 : decode b_TC_peek 57 = .ok (.iload_n 1, 1) := by decide +kernel
theorem d_TC_peek_58 : decode b_TC_peek 58 = .ok (.invokevirtual 71, 3) := by decide +kernel
theorem d_TC_peek_61 : decode b_TC_peek 61 = .ok (.ireturn, 1) := by decide +kernel
theorem d_TC_peek_62 : decode b_TC_peek 62 = .ok (.iinc 3 1, 3) := by decide +kernel
theorem d_TC_peek_65 : decode b_TC_peek 65 = .ok (.goto (-58), 3) := by decide +kernel
theorem d_TC_peek_68 : decode b_TC_peek 68 = .ok (.aload_n 0, 1) := by decide +kernel
theorem d_TC_peek_69 : decode b_TC_peek 69 = .ok (.getfield 16, 3) := by decide +kernel
theorem d_TC_peek_72 : decode b_TC_peek 72 = .ok (.iload_n 1, 1) := by decide +kernel
theorem d_TC_peek_73 : decode b_TC_peek 73 = .ok (.invokevirtual 74, 3) := by decide +kernel
theorem d_TC_peek_76 : decode b_TC_peek 76 = .ok (.ireturn, 1) := by decide +kernel
theorem d_Way_get_0 : decode b_Way_get 0 = .ok (.iload_n 1, 1) := by decide +kernel
theorem d_Way_get_1 : decode b_Way_get 1 = .ok (.iconst 1, 1) := by decide +kernel
theorem d_Way_get_2 : decode b_Way_get 2 = .ok (.iand, 1) := by decide +kernel
theorem d_Way_get_3 : decode b_Way_get 3 = .ok (.ifCond .ne 10, 3) := by decide +kernel
theorem d_Way_get_6 : decode b_Way_get 6 = .ok (.aload_n 0, 1) := by decide +kernel
theorem d_Way_get_7 : decode b_Way_get 7 = .ok (.getfield 7, 3) := by decide +kernel
theorem d_Way_get_10 : decode b_Way_get 10 = .ok (.goto 7, 3) := by decide +kernel
theorem d_Way_get_13 : decode b_Way_get 13 = .ok (.aload_n 0, 1) := by decide +kernel
theorem d_Way_get_14 : decode b_Way_get 14 = .ok (.getfield 13, 3) := by decide +kernel
theorem d_Way_get_17 : decode b_Way_get 17 = .ok (.ireturn, 1) := by decide +kernel
theorem d_Store_get_0 : decode b_Store_get 0 = .ok (.aload_n 0, 1) := by decide +kernel
theorem d_Store_get_1 : decode b_Store_get 1 = .ok (.getfield 9, 3) := by decide +kernel
theorem d_Store_get_4 : decode b_Store_get 4 = .ok (.iload_n 1, 1) := by decide +kernel
theorem d_Store_get_5 : decode b_Store_get 5 = .ok (.bipush 63, 2) := by decide +kernel
theorem d_Store_get_7 : decode b_Store_get 7 = .ok (.iand, 1) := by decide +kernel
theorem d_Store_get_8 : decode b_Store_get 8 = .ok (.iaload, 1) := by decide +kernel
theorem d_Store_get_9 : decode b_Store_get 9 = .ok (.ireturn, 1) := by decide +kernel
theorem d_TC_memory_0 : decode b_TC_memory 0 = .ok (.aload_n 0, 1) := by decide +kernel
theorem d_TC_memory_1 : decode b_TC_memory 1 = .ok (.getfield 16, 3) := by decide +kernel
theorem d_TC_memory_4 : decode b_TC_memory 4 = .ok (.iload_n 1, 1) := by decide +kernel
theorem d_TC_memory_5 : decode b_TC_memory 5 = .ok (.invokevirtual 74, 3) := by decide +kernel
theorem d_TC_memory_8 : decode b_TC_memory 8 = .ok (.ireturn, 1) := by decide +kernel
theorem d_TC_requests_0 : decode b_TC_requests 0 = .ok (.aload_n 0, 1) := by decide +kernel
theorem d_TC_requests_1 : decode b_TC_requests 1 = .ok (.getfield 123, 3) := by decide +kernel
theorem d_TC_requests_4 : decode b_TC_requests 4 = .ok (.ireturn, 1) := by decide +kernel
theorem d_TC_code_0 : decode b_TC_code 0 = .ok (.iload_n 1, 1) := by decide +kernel
theorem d_TC_code_1 : decode b_TC_code 1 = .ok (.aload_n 0, 1) := by decide +kernel
theorem d_TC_code_2 : decode b_TC_code 2 = .ok (.getfield 22, 3) := by decide +kernel
theorem d_TC_code_5 : decode b_TC_code 5 = .ok (.arraylength, 1) := by decide +kernel
theorem d_TC_code_6 : decode b_TC_code 6 = .ok (.invokestatic 37, 3) := by decide +kernel
theorem d_TC_code_9 : decode b_TC_code 9 = .ok (.iload_n 2, 1) := by decide +kernel
theorem d_TC_code_10 : decode b_TC_code 10 = .ok (.bipush 16, 2) := by decide +kernel
theorem d_TC_code_12 : decode b_TC_code 12 = .ok (.invokestatic 37, 3) := by decide +kernel
theorem d_TC_code_15 : decode b_TC_code 15 = .ok (.aload_n 0, 1) := by decide +kernel
theorem d_TC_code_16 : decode b_TC_code 16 = .ok (.getfield 22, 3) := by decide +kernel
theorem d_TC_code_19 : decode b_TC_code 19 = .ok (.iload_n 1, 1) := by decide +kernel
theorem d_TC_code_20 : decode b_TC_code 20 = .ok (.aaload, 1) := by decide +kernel
theorem d_TC_code_21 : decode b_TC_code 21 = .ok (.getfield 40, 3) := by decide +kernel
theorem d_TC_code_24 : decode b_TC_code 24 = .ok (.iload_n 2, 1) := by decide +kernel
theorem d_TC_code_25 : decode b_TC_code 25 = .ok (.iload_n 3, 1) := by decide +kernel
theorem d_TC_code_26 : decode b_TC_code 26 = .ok (.iastore, 1) := by decide +kernel
theorem d_TC_code_27 : decode b_TC_code 27 = .ok (.return_, 1) := by decide +kernel
theorem d_TC_checkThere_0 : decode b_TC_checkThere 0 = .ok (.iload_n 0, 1) := by decide +kernel
theorem d_TC_checkThere_1 : decode b_TC_checkThere 1 = .ok (.ifCond .lt 8, 3) := by decide +kernel
theorem d_TC_checkThere_4 : decode b_TC_checkThere 4 = .ok (.iload_n 0, 1) := by decide +kernel
theorem d_TC_checkThere_5 : decode b_TC_checkThere 5 = .ok (.iload_n 1, 1) := by decide +kernel
theorem d_TC_checkThere_6 : decode b_TC_checkThere 6 = .ok (.if_icmp .lt 13, 3) := by decide +kernel
theorem d_TC_checkThere_9 : decode b_TC_checkThere 9 = .ok (.new 126, 3) := by decide +kernel
theorem d_TC_checkThere_12 : decode b_TC_checkThere 12 = .ok (.dup, 1) := by decide +kernel
theorem d_TC_checkThere_13 : decode b_TC_checkThere 13 = .ok (.ldc 128, 2) := by decide +kernel
theorem d_TC_checkThere_15 : decode b_TC_checkThere 15 = .ok (.invokespecial 130, 3) := by decide +kernel
theorem d_TC_checkThere_18 : decode b_TC_checkThere 18 = .ok (.athrow, 1) := by decide +kernel
theorem d_TC_checkThere_19 : decode b_TC_checkThere 19 = .ok (.return_, 1) := by decide +kernel
theorem d_TC_step_0 : decode b_TC_step 0 = .ok (.iload_n 1, 1) := by decide +kernel
theorem d_TC_step_1 : decode b_TC_step 1 = .ok (.aload_n 0, 1) := by decide +kernel
theorem d_TC_step_2 : decode b_TC_step 2 = .ok (.getfield 22, 3) := by decide +kernel
theorem d_TC_step_5 : decode b_TC_step 5 = .ok (.arraylength, 1) := by decide +kernel
theorem d_TC_step_6 : decode b_TC_step 6 = .ok (.invokestatic 37, 3) := by decide +kernel
theorem d_TC_step_9 : decode b_TC_step 9 = .ok (.aload_n 0, 1) := by decide +kernel
theorem d_TC_step_10 : decode b_TC_step 10 = .ok (.aload_n 0, 1) := by decide +kernel
theorem d_TC_step_11 : decode b_TC_step 11 = .ok (.getfield 22, 3) := by decide +kernel
theorem d_TC_step_14 : decode b_TC_step 14 = .ok (.iload_n 1, 1) := by decide +kernel
theorem d_TC_step_15 : decode b_TC_step 15 = .ok (.aaload, 1) := by decide +kernel
theorem d_TC_step_16 : decode b_TC_step 16 = .ok (.invokevirtual 75, 3) := by decide +kernel
theorem d_TC_step_19 : decode b_TC_step 19 = .ok (.ireturn, 1) := by decide +kernel
theorem d_TC_takeStep_0 : decode b_TC_takeStep 0 = .ok (.aload_n 1, 1) := by decide +kernel
theorem d_TC_takeStep_1 : decode b_TC_takeStep 1 = .ok (.getfield 100, 3) := by decide +kernel
theorem d_TC_takeStep_4 : decode b_TC_takeStep 4 = .ok (.ifCond .eq 5, 3) := by decide +kernel
theorem d_TC_takeStep_7 : decode b_TC_takeStep 7 = .ok (.iconst 0, 1) := by decide +kernel
theorem d_TC_takeStep_8 : decode b_TC_takeStep 8 = .ok (.ireturn, 1) := by decide +kernel
theorem d_TC_takeStep_9 : decode b_TC_takeStep 9 = .ok (.aload_n 1, 1) := by decide +kernel
theorem d_TC_takeStep_10 : decode b_TC_takeStep 10 = .ok (.getfield 97, 3) := by decide +kernel
theorem d_TC_takeStep_13 : decode b_TC_takeStep 13 = .ok (.istore_n 2, 1) := by decide +kernel
theorem d_TC_takeStep_14 : decode b_TC_takeStep 14 = .ok (.aload_n 1, 1) := by decide +kernel
theorem d_TC_takeStep_15 : decode b_TC_takeStep 15 = .ok (.getfield 40, 3) := by decide +kernel
theorem d_TC_takeStep_18 : decode b_TC_takeStep 18 = .ok (.iload_n 2, 1) := by decide +kernel
theorem d_TC_takeStep_19 : decode b_TC_takeStep 19 = .ok (.iaload, 1) := by decide +kernel
theorem d_TC_takeStep_20 : decode b_TC_takeStep 20 = .ok (.istore_n 3, 1) := by decide +kernel
theorem d_TC_takeStep_21 : decode b_TC_takeStep 21 = .ok (.aload_n 1, 1) := by decide +kernel
theorem d_TC_takeStep_22 : decode b_TC_takeStep 22 = .ok (.iload_n 2, 1) := by decide +kernel
theorem d_TC_takeStep_23 : decode b_TC_takeStep 23 = .ok (.iconst 1, 1) := by decide +kernel
theorem d_TC_takeStep_24 : decode b_TC_takeStep 24 = .ok (.iadd, 1) := by decide +kernel
theorem d_TC_takeStep_25 : decode b_TC_takeStep 25 = .ok (.invokestatic 94, 3) := by decide +kernel
theorem d_TC_takeStep_28 : decode b_TC_takeStep 28 = .ok (.putfield 97, 3) := by decide +kernel
theorem d_TC_takeStep_31 : decode b_TC_takeStep 31 = .ok (.iload_n 3, 1) := by decide +kernel
theorem d_TC_takeStep_32 : decode b_TC_takeStep 32 = .ok (.invokestatic 143, 3) := by decide +kernel
theorem d_TC_takeStep_35 : decode b_TC_takeStep 35 = .ok (.tableswitch 142 0 13 #[69, 76, 76, 76, 76, 83, 90, 97, 97, 104, 113, 133, 76, 76], 69) := by decide +kernel
theorem d_TC_takeStep_104 : decode b_TC_takeStep 104 = .ok (.aload_n 1, 1) := by decide +kernel
theorem d_TC_takeStep_105 : decode b_TC_takeStep 105 = .ok (.iload_n 2, 1) := by decide +kernel
theorem d_TC_takeStep_106 : decode b_TC_takeStep 106 = .ok (.putfield 97, 3) := by decide +kernel
theorem d_TC_takeStep_109 : decode b_TC_takeStep 109 = .ok (.iconst 1, 1) := by decide +kernel
theorem d_TC_takeStep_110 : decode b_TC_takeStep 110 = .ok (.ireturn, 1) := by decide +kernel
theorem d_TC_takeStep_111 : decode b_TC_takeStep 111 = .ok (.aload_n 1, 1) := by decide +kernel
theorem d_TC_takeStep_112 : decode b_TC_takeStep 112 = .ok (.iload_n 3, 1) := by decide +kernel
theorem d_TC_takeStep_113 : decode b_TC_takeStep 113 = .ok (.invokevirtual 146, 3) := by decide +kernel
theorem d_TC_takeStep_116 : decode b_TC_takeStep 116 = .ok (.iconst 4, 1) := by decide +kernel
theorem d_TC_takeStep_117 : decode b_TC_takeStep 117 = .ok (.ireturn, 1) := by decide +kernel
theorem d_TC_takeStep_118 : decode b_TC_takeStep 118 = .ok (.aload_n 0, 1) := by decide +kernel
theorem d_TC_takeStep_119 : decode b_TC_takeStep 119 = .ok (.aload_n 1, 1) := by decide +kernel
theorem d_TC_takeStep_120 : decode b_TC_takeStep 120 = .ok (.iload_n 3, 1) := by decide +kernel
theorem d_TC_takeStep_121 : decode b_TC_takeStep 121 = .ok (.invokevirtual 150, 3) := by decide +kernel
theorem d_TC_takeStep_124 : decode b_TC_takeStep 124 = .ok (.ireturn, 1) := by decide +kernel
theorem d_TC_takeStep_125 : decode b_TC_takeStep 125 = .ok (.aload_n 0, 1) := by decide +kernel
theorem d_TC_takeStep_126 : decode b_TC_takeStep 126 = .ok (.aload_n 1, 1) := by decide +kernel
theorem d_TC_takeStep_127 : decode b_TC_takeStep 127 = .ok (.iload_n 3, 1) := by decide +kernel
theorem d_TC_takeStep_128 : decode b_TC_takeStep 128 = .ok (.invokevirtual 154, 3) := by decide +kernel
theorem d_TC_takeStep_131 : decode b_TC_takeStep 131 = .ok (.ireturn, 1) := by decide +kernel
theorem d_TC_takeStep_132 : decode b_TC_takeStep 132 = .ok (.aload_n 1, 1) := by decide +kernel
theorem d_TC_takeStep_133 : decode b_TC_takeStep 133 = .ok (.iload_n 3, 1) := by decide +kernel
theorem d_TC_takeStep_134 : decode b_TC_takeStep 134 = .ok (.invokevirtual 157, 3) := by decide +kernel
theorem d_TC_takeStep_137 : decode b_TC_takeStep 137 = .ok (.iconst 4, 1) := by decide +kernel
theorem d_TC_takeStep_138 : decode b_TC_takeStep 138 = .ok (.ireturn, 1) := by decide +kernel
theorem d_TC_takeStep_139 : decode b_TC_takeStep 139 = .ok (.aload_n 1, 1) := by decide +kernel
theorem d_TC_takeStep_140 : decode b_TC_takeStep 140 = .ok (.iload_n 3, 1) := by decide +kernel
theorem d_TC_takeStep_141 : decode b_TC_takeStep 141 = .ok (.invokestatic 140, 3) := by decide +kernel
theorem d_TC_takeStep_144 : decode b_TC_takeStep 144 = .ok (.invokevirtual 160, 3) := by decide +kernel
theorem d_TC_takeStep_147 : decode b_TC_takeStep 147 = .ok (.ireturn, 1) := by decide +kernel
theorem d_TC_takeStep_148 : decode b_TC_takeStep 148 = .ok (.aload_n 1, 1) := by decide +kernel
theorem d_TC_takeStep_149 : decode b_TC_takeStep 149 = .ok (.getfield 86, 3) := by decide +kernel
theorem d_TC_takeStep_152 : decode b_TC_takeStep 152 = .ok (.ifCond .ne 11, 3) := by decide +kernel
theorem d_TC_takeStep_155 : decode b_TC_takeStep 155 = .ok (.aload_n 1, 1) := by decide +kernel
theorem d_TC_takeStep_156 : decode b_TC_takeStep 156 = .ok (.iload_n 2, 1) := by decide +kernel
theorem d_TC_takeStep_157 : decode b_TC_takeStep 157 = .ok (.invokevirtual 163, 3) := by decide +kernel
theorem d_TC_takeStep_160 : decode b_TC_takeStep 160 = .ok (.goto 7, 3) := by decide +kernel
theorem d_TC_takeStep_163 : decode b_TC_takeStep 163 = .ok (.aload_n 1, 1) := by decide +kernel
theorem d_TC_takeStep_164 : decode b_TC_takeStep 164 = .ok (.invokevirtual 166, 3) := by decide +kernel
theorem d_TC_takeStep_167 : decode b_TC_takeStep 167 = .ok (.ireturn, 1) := by decide +kernel
theorem d_TC_takeStep_168 : decode b_TC_takeStep 168 = .ok (.aload_n 1, 1) := by decide +kernel
theorem d_TC_takeStep_169 : decode b_TC_takeStep 169 = .ok (.iload_n 3, 1) := by decide +kernel
theorem d_TC_takeStep_170 : decode b_TC_takeStep 170 = .ok (.invokestatic 140, 3) := by decide +kernel
theorem d_TC_takeStep_173 : decode b_TC_takeStep 173 = .ok (.invokevirtual 170, 3) := by decide +kernel
theorem d_TC_takeStep_176 : decode b_TC_takeStep 176 = .ok (.ireturn, 1) := by decide +kernel
theorem d_TC_takeStep_177 : decode b_TC_takeStep 177 = .ok (.aload_n 1, 1) := by decide +kernel
theorem d_TC_takeStep_178 : decode b_TC_takeStep 178 = .ok (.iload_n 2, 1) := by decide +kernel
theorem d_TC_takeStep_179 : decode b_TC_takeStep 179 = .ok (.invokevirtual 163, 3) := by decide +kernel
theorem d_TC_takeStep_182 : decode b_TC_takeStep 182 = .ok (.ireturn, 1) := by decide +kernel
theorem d_TC_place_0 : decode b_TC_place 0 = .ok (.iload_n 0, 1) := by decide +kernel
theorem d_TC_place_1 : decode b_TC_place 1 = .ok (.bipush 15, 2) := by decide +kernel
theorem d_TC_place_3 : decode b_TC_place 3 = .ok (.iand, 1) := by decide +kernel
theorem d_TC_place_4 : decode b_TC_place 4 = .ok (.ireturn, 1) := by decide +kernel
theorem d_TC_kindOf_0 : decode b_TC_kindOf 0 = .ok (.iload_n 0, 1) := by decide +kernel
theorem d_TC_kindOf_1 : decode b_TC_kindOf 1 = .ok (.bipush 15, 2) := by decide +kernel
theorem d_TC_kindOf_3 : decode b_TC_kindOf 3 = .ok (.iand, 1) := by decide +kernel
theorem d_TC_kindOf_4 : decode b_TC_kindOf 4 = .ok (.ireturn, 1) := by decide +kernel
theorem d_Core_reckon_0 : decode b_Core_reckon 0 = .ok (.aload_n 0, 1) := by decide +kernel
theorem d_Core_reckon_1 : decode b_Core_reckon 1 = .ok (.getfield 15, 3) := by decide +kernel
theorem d_Core_reckon_4 : decode b_Core_reckon 4 = .ok (.iload_n 1, 1) := by decide +kernel
theorem d_Core_reckon_5 : decode b_Core_reckon 5 = .ok (.invokestatic 32, 3) := by decide +kernel
theorem d_Core_reckon_8 : decode b_Core_reckon 8 = .ok (.iaload, 1) := by decide +kernel
theorem d_Core_reckon_9 : decode b_Core_reckon 9 = .ok (.istore_n 2, 1) := by decide +kernel
theorem d_Core_reckon_10 : decode b_Core_reckon 10 = .ok (.aload_n 0, 1) := by decide +kernel
theorem d_Core_reckon_11 : decode b_Core_reckon 11 = .ok (.getfield 15, 3) := by decide +kernel
theorem d_Core_reckon_14 : decode b_Core_reckon 14 = .ok (.iload_n 1, 1) := by decide +kernel
theorem d_Core_reckon_15 : decode b_Core_reckon 15 = .ok (.invokestatic 36, 3) := by decide +kernel
theorem d_Core_reckon_18 : decode b_Core_reckon 18 = .ok (.iaload, 1) := by decide +kernel
theorem d_Core_reckon_19 : decode b_Core_reckon 19 = .ok (.istore_n 3, 1) := by decide +kernel
theorem d_Core_reckon_20 : decode b_Core_reckon 20 = .ok (.iload_n 1, 1) := by decide +kernel
theorem d_Core_reckon_21 : decode b_Core_reckon 21 = .ok (.invokestatic 39, 3) := by decide +kernel
theorem d_Core_reckon_24 : decode b_Core_reckon 24 = .ok (.istore 4, 2) := by decide +kernel
theorem d_Core_reckon_26 : decode b_Core_reckon 26 = .ok (.iload_n 1, 1) := by decide +kernel
theorem d_Core_reckon_27 : decode b_Core_reckon 27 = .ok (.invokestatic 42, 3) := by decide +kernel
theorem d_Core_reckon_30 : decode b_Core_reckon 30 = .ok (.tableswitch 129 1 12 #[62, 76, 89, 102, 129, 129, 129, 129, 129, 129, 129, 115], 62) := by decide +kernel
theorem d_Core_reckon_92 : decode b_Core_reckon 92 = .ok (.aload_n 0, 1) := by decide +kernel
theorem d_Core_reckon_93 : decode b_Core_reckon 93 = .ok (.getfield 15, 3) := by decide +kernel
theorem d_Core_reckon_96 : decode b_Core_reckon 96 = .ok (.iload 4, 2) := by decide +kernel
theorem d_Core_reckon_98 : decode b_Core_reckon 98 = .ok (.iload_n 1, 1) := by decide +kernel
theorem d_Core_reckon_99 : decode b_Core_reckon 99 = .ok (.invokestatic 45, 3) := by decide +kernel
theorem d_Core_reckon_102 : decode b_Core_reckon 102 = .ok (.iastore, 1) := by decide +kernel
theorem d_Core_reckon_103 : decode b_Core_reckon 103 = .ok (.goto 67, 3) := by decide +kernel
theorem d_Core_reckon_106 : decode b_Core_reckon 106 = .ok (.aload_n 0, 1) := by decide +kernel
theorem d_Core_reckon_107 : decode b_Core_reckon 107 = .ok (.getfield 15, 3) := by decide +kernel
theorem d_Core_reckon_110 : decode b_Core_reckon 110 = .ok (.iload 4, 2) := by decide +kernel
theorem d_Core_reckon_112 : decode b_Core_reckon 112 = .ok (.iload_n 2, 1) := by decide +kernel
theorem d_Core_reckon_113 : decode b_Core_reckon 113 = .ok (.iload_n 3, 1) := by decide +kernel
theorem d_Core_reckon_114 : decode b_Core_reckon 114 = .ok (.iadd, 1) := by decide +kernel
theorem d_Core_reckon_115 : decode b_Core_reckon 115 = .ok (.iastore, 1) := by decide +kernel
theorem d_Core_reckon_116 : decode b_Core_reckon 116 = .ok (.goto 54, 3) := by decide +kernel
theorem d_Core_reckon_119 : decode b_Core_reckon 119 = .ok (.aload_n 0, 1) := by decide +kernel
theorem d_Core_reckon_120 : decode b_Core_reckon 120 = .ok (.getfield 15, 3) := by decide +kernel
theorem d_Core_reckon_123 : decode b_Core_reckon 123 = .ok (.iload 4, 2) := by decide +kernel
theorem d_Core_reckon_125 : decode b_Core_reckon 125 = .ok (.iload_n 2, 1) := by decide +kernel
theorem d_Core_reckon_126 : decode b_Core_reckon 126 = .ok (.iload_n 3, 1) := by decide +kernel
theorem d_Core_reckon_127 : decode b_Core_reckon 127 = .ok (.isub, 1) := by decide +kernel
theorem d_Core_reckon_128 : decode b_Core_reckon 128 = .ok (.iastore, 1) := by decide +kernel
theorem d_Core_reckon_129 : decode b_Core_reckon 129 = .ok (.goto 41, 3) := by decide +kernel
theorem d_Core_reckon_132 : decode b_Core_reckon 132 = .ok (.aload_n 0, 1) := by decide +kernel
theorem d_Core_reckon_133 : decode b_Core_reckon 133 = .ok (.getfield 15, 3) := by decide +kernel
theorem d_Core_reckon_136 : decode b_Core_reckon 136 = .ok (.iload 4, 2) := by decide +kernel
theorem d_Core_reckon_138 : decode b_Core_reckon 138 = .ok (.iload_n 2, 1) := by decide +kernel
theorem d_Core_reckon_139 : decode b_Core_reckon 139 = .ok (.iload_n 3, 1) := by decide +kernel
theorem d_Core_reckon_140 : decode b_Core_reckon 140 = .ok (.iand, 1) := by decide +kernel
theorem d_Core_reckon_141 : decode b_Core_reckon 141 = .ok (.iastore, 1) := by decide +kernel
theorem d_Core_reckon_142 : decode b_Core_reckon 142 = .ok (.goto 28, 3) := by decide +kernel
theorem d_Core_reckon_145 : decode b_Core_reckon 145 = .ok (.aload_n 0, 1) := by decide +kernel
theorem d_Core_reckon_146 : decode b_Core_reckon 146 = .ok (.getfield 15, 3) := by decide +kernel
theorem d_Core_reckon_149 : decode b_Core_reckon 149 = .ok (.iload 4, 2) := by decide +kernel
theorem d_Core_reckon_151 : decode b_Core_reckon 151 = .ok (.aload_n 0, 1) := by decide +kernel
theorem d_Core_reckon_152 : decode b_Core_reckon 152 = .ok (.getfield 48, 3) := by decide +kernel
theorem d_Core_reckon_155 : decode b_Core_reckon 155 = .ok (.iastore, 1) := by decide +kernel
theorem d_Core_reckon_156 : decode b_Core_reckon 156 = .ok (.goto 14, 3) := by decide +kernel
theorem d_Core_reckon_159 : decode b_Core_reckon 159 = .ok (.aload_n 0, 1) := by decide +kernel
theorem d_Core_reckon_160 : decode b_Core_reckon 160 = .ok (.getfield 15, 3) := by decide +kernel
theorem d_Core_reckon_163 : decode b_Core_reckon 163 = .ok (.iload 4, 2) := by decide +kernel
theorem d_Core_reckon_165 : decode b_Core_reckon 165 = .ok (.aload_n 0, 1) := by decide +kernel
theorem d_Core_reckon_166 : decode b_Core_reckon 166 = .ok (.getfield 24, 3) := by decide +kernel
theorem d_Core_reckon_169 : decode b_Core_reckon 169 = .ok (.iastore, 1) := by decide +kernel
theorem d_Core_reckon_170 : decode b_Core_reckon 170 = .ok (.return_, 1) := by decide +kernel
theorem d_TC_registerB_0 : decode b_TC_registerB 0 = .ok (.iload_n 0, 1) := by decide +kernel
theorem d_TC_registerB_1 : decode b_TC_registerB 1 = .ok (.bipush 7, 2) := by decide +kernel
theorem d_TC_registerB_3 : decode b_TC_registerB 3 = .ok (.ishr, 1) := by decide +kernel
theorem d_TC_registerB_4 : decode b_TC_registerB 4 = .ok (.bipush 7, 2) := by decide +kernel
theorem d_TC_registerB_6 : decode b_TC_registerB 6 = .ok (.iand, 1) := by decide +kernel
theorem d_TC_registerB_7 : decode b_TC_registerB 7 = .ok (.ireturn, 1) := by decide +kernel
theorem d_TC_registerC_0 : decode b_TC_registerC 0 = .ok (.iload_n 0, 1) := by decide +kernel
theorem d_TC_registerC_1 : decode b_TC_registerC 1 = .ok (.invokestatic 140, 3) := by decide +kernel
theorem d_TC_registerC_4 : decode b_TC_registerC 4 = .ok (.bipush 7, 2) := by decide +kernel
theorem d_TC_registerC_6 : decode b_TC_registerC 6 = .ok (.iand, 1) := by decide +kernel
theorem d_TC_registerC_7 : decode b_TC_registerC 7 = .ok (.ireturn, 1) := by decide +kernel
theorem d_TC_immediateOf_0 : decode b_TC_immediateOf 0 = .ok (.iload_n 0, 1) := by decide +kernel
theorem d_TC_immediateOf_1 : decode b_TC_immediateOf 1 = .ok (.bipush 11, 2) := by decide +kernel
theorem d_TC_immediateOf_3 : decode b_TC_immediateOf 3 = .ok (.ishr, 1) := by decide +kernel
theorem d_TC_immediateOf_4 : decode b_TC_immediateOf 4 = .ok (.ireturn, 1) := by decide +kernel
theorem d_TC_registerA_0 : decode b_TC_registerA 0 = .ok (.iload_n 0, 1) := by decide +kernel
theorem d_TC_registerA_1 : decode b_TC_registerA 1 = .ok (.iconst 4, 1) := by decide +kernel
theorem d_TC_registerA_2 : decode b_TC_registerA 2 = .ok (.ishr, 1) := by decide +kernel
theorem d_TC_registerA_3 : decode b_TC_registerA 3 = .ok (.bipush 7, 2) := by decide +kernel
theorem d_TC_registerA_5 : decode b_TC_registerA 5 = .ok (.iand, 1) := by decide +kernel
theorem d_TC_registerA_6 : decode b_TC_registerA 6 = .ok (.ireturn, 1) := by decide +kernel
theorem d_TC_load_0 : decode b_TC_load 0 = .ok (.aload_n 1, 1) := by decide +kernel
theorem d_TC_load_1 : decode b_TC_load 1 = .ok (.iload_n 2, 1) := by decide +kernel
theorem d_TC_load_2 : decode b_TC_load 2 = .ok (.invokevirtual 173, 3) := by decide +kernel
theorem d_TC_load_5 : decode b_TC_load 5 = .ok (.istore_n 3, 1) := by decide +kernel
theorem d_TC_load_6 : decode b_TC_load 6 = .ok (.aload_n 0, 1) := by decide +kernel
theorem d_TC_load_7 : decode b_TC_load 7 = .ok (.aload_n 1, 1) := by decide +kernel
theorem d_TC_load_8 : decode b_TC_load 8 = .ok (.iload_n 3, 1) := by decide +kernel
theorem d_TC_load_9 : decode b_TC_load 9 = .ok (.invokestatic 44, 3) := by decide +kernel
theorem d_TC_load_12 : decode b_TC_load 12 = .ok (.iconst 0, 1) := by decide +kernel
theorem d_TC_load_13 : decode b_TC_load 13 = .ok (.invokevirtual 176, 3) := by decide +kernel
theorem d_TC_load_16 : decode b_TC_load 16 = .ok (.astore 4, 2) := by decide +kernel
theorem d_TC_load_18 : decode b_TC_load 18 = .ok (.aload 4, 2) := by decide +kernel
theorem d_TC_load_20 : decode b_TC_load 20 = .ok (.ifnonnull 5, 3) := by decide +kernel
theorem d_TC_load_23 : decode b_TC_load 23 = .ok (.iconst 2, 1) := by decide +kernel
theorem d_TC_load_24 : decode b_TC_load 24 = .ok (.ireturn, 1) := by decide +kernel
theorem d_TC_load_25 : decode b_TC_load 25 = .ok (.aload_n 1, 1) := by decide +kernel
theorem d_TC_load_26 : decode b_TC_load 26 = .ok (.getfield 104, 3) := by decide +kernel
theorem d_TC_load_29 : decode b_TC_load 29 = .ok (.iload_n 2, 1) := by decide +kernel
theorem d_TC_load_30 : decode b_TC_load 30 = .ok (.invokestatic 180, 3) := by decide +kernel
theorem d_TC_load_33 : decode b_TC_load 33 = .ok (.aload 4, 2) := by decide +kernel
theorem d_TC_load_35 : decode b_TC_load 35 = .ok (.iload_n 3, 1) := by decide +kernel
theorem d_TC_load_36 : decode b_TC_load 36 = .ok (.invokevirtual 71, 3) := by decide +kernel
theorem d_TC_load_39 : decode b_TC_load 39 = .ok (.iastore, 1) := by decide +kernel
theorem d_TC_load_40 : decode b_TC_load 40 = .ok (.iconst 4, 1) := by decide +kernel
theorem d_TC_load_41 : decode b_TC_load 41 = .ok (.ireturn, 1) := by decide +kernel
theorem d_Core_addressOf_0 : decode b_Core_addressOf 0 = .ok (.aload_n 0, 1) := by decide +kernel
theorem d_Core_addressOf_1 : decode b_Core_addressOf 1 = .ok (.getfield 15, 3) := by decide +kernel
theorem d_Core_addressOf_4 : decode b_Core_addressOf 4 = .ok (.iload_n 1, 1) := by decide +kernel
theorem d_Core_addressOf_5 : decode b_Core_addressOf 5 = .ok (.invokestatic 32, 3) := by decide +kernel
theorem d_Core_addressOf_8 : decode b_Core_addressOf 8 = .ok (.iaload, 1) := by decide +kernel
theorem d_Core_addressOf_9 : decode b_Core_addressOf 9 = .ok (.iload_n 1, 1) := by decide +kernel
theorem d_Core_addressOf_10 : decode b_Core_addressOf 10 = .ok (.invokestatic 45, 3) := by decide +kernel
theorem d_Core_addressOf_13 : decode b_Core_addressOf 13 = .ok (.iadd, 1) := by decide +kernel
theorem d_Core_addressOf_14 : decode b_Core_addressOf 14 = .ok (.ireturn, 1) := by decide +kernel
theorem d_TC_access_0 : decode b_TC_access 0 = .ok (.aload_n 1, 1) := by decide +kernel
theorem d_TC_access_1 : decode b_TC_access 1 = .ok (.getfield 54, 3) := by decide +kernel
theorem d_TC_access_4 : decode b_TC_access 4 = .ok (.iload_n 2, 1) := by decide +kernel
theorem d_TC_access_5 : decode b_TC_access 5 = .ok (.invokevirtual 58, 3) := by decide +kernel
theorem d_TC_access_8 : decode b_TC_access 8 = .ok (.astore 4, 2) := by decide +kernel
theorem d_TC_access_10 : decode b_TC_access 10 = .ok (.aload 4, 2) := by decide +kernel
theorem d_TC_access_12 : decode b_TC_access 12 = .ok (.ifnull 8, 3) := by decide +kernel
theorem d_TC_access_15 : decode b_TC_access 15 = .ok (.aload 4, 2) := by decide +kernel
theorem d_TC_access_17 : decode b_TC_access 17 = .ok (.goto 11, 3) := by decide +kernel
theorem d_TC_access_20 : decode b_TC_access 20 = .ok (.aload_n 1, 1) := by decide +kernel
theorem d_TC_access_21 : decode b_TC_access 21 = .ok (.getfield 54, 3) := by decide +kernel
theorem d_TC_access_24 : decode b_TC_access 24 = .ok (.iload_n 2, 1) := by decide +kernel
theorem d_TC_access_25 : decode b_TC_access 25 = .ok (.invokevirtual 184, 3) := by decide +kernel
theorem d_TC_access_28 : decode b_TC_access 28 = .ok (.astore 5, 2) := by decide +kernel
theorem d_TC_access_30 : decode b_TC_access 30 = .ok (.aload 5, 2) := by decide +kernel
theorem d_TC_access_32 : decode b_TC_access 32 = .ok (.ifnonnull 12, 3) := by decide +kernel
theorem d_TC_access_35 : decode b_TC_access 35 = .ok (.aload_n 1, 1) := by decide +kernel
theorem d_TC_access_36 : decode b_TC_access 36 = .ok (.iconst 2, 1) := by decide +kernel
theorem d_TC_access_37 : decode b_TC_access 37 = .ok (.iconst 0, 1) := by decide +kernel
theorem d_TC_access_38 : decode b_TC_access 38 = .ok (.invokevirtual 187, 3) := by decide +kernel
theorem d_TC_access_41 : decode b_TC_access 41 = .ok (.pop, 1) := by decide +kernel
theorem d_TC_access_42 : decode b_TC_access 42 = .ok (.aconst_null, 1) := by decide +kernel
theorem d_TC_access_43 : decode b_TC_access 43 = .ok (.areturn, 1) := by decide +kernel
theorem d_TC_access_44 : decode b_TC_access 44 = .ok (.aload 4, 2) := by decide +kernel
theorem d_TC_access_46 : decode b_TC_access 46 = .ok (.ifnull 16, 3) := by decide +kernel
theorem d_TC_access_49 : decode b_TC_access 49 = .ok (.iload_n 3, 1) := by decide +kernel
theorem d_TC_access_50 : decode b_TC_access 50 = .ok (.ifCond .eq 32, 3) := by decide +kernel
theorem d_TC_access_53 : decode b_TC_access 53 = .ok (.aload 4, 2) := by decide +kernel
theorem d_TC_access_55 : decode b_TC_access 55 = .ok (.getfield 62, 3) := by decide +kernel
theorem d_TC_access_58 : decode b_TC_access 58 = .ok (.iconst 2, 1) := by decide +kernel
theorem d_TC_access_59 : decode b_TC_access 59 = .ok (.if_icmp .eq 23, 3) := by decide +kernel
theorem d_TC_access_62 : decode b_TC_access 62 = .ok (.aload_n 0, 1) := by decide +kernel
theorem d_TC_access_63 : decode b_TC_access 63 = .ok (.dup, 1) := by decide +kernel
theorem d_TC_access_64 : decode b_TC_access 64 = .ok (.getfield 123, 3) := by decide +kernel
theorem d_TC_access_67 : decode b_TC_access 67 = .ok (.iconst 1, 1) := by decide +kernel
theorem d_TC_access_68 : decode b_TC_access 68 = .ok (.iadd, 1) := by decide +kernel
theorem d_TC_access_69 : decode b_TC_access 69 = .ok (.putfield 123, 3) := by decide +kernel
theorem d_TC_access_72 : decode b_TC_access 72 = .ok (.aload_n 0, 1) := by decide +kernel
theorem d_TC_access_73 : decode b_TC_access 73 = .ok (.aload_n 1, 1) := by decide +kernel
theorem d_TC_access_74 : decode b_TC_access 74 = .ok (.getfield 190, 3) := by decide +kernel
theorem d_TC_access_77 : decode b_TC_access 77 = .ok (.iload_n 2, 1) := by decide +kernel
theorem d_TC_access_78 : decode b_TC_access 78 = .ok (.iload_n 3, 1) := by decide +kernel
theorem d_TC_access_79 : decode b_TC_access 79 = .ok (.invokevirtual 47, 3) := by decide +kernel
theorem d_TC_access_82 : decode b_TC_access 82 = .ok (.aload 4, 2) := by decide +kernel
theorem d_TC_access_84 : decode b_TC_access 84 = .ok (.ifnonnull 10, 3) := by decide +kernel
theorem d_TC_access_87 : decode b_TC_access 87 = .ok (.aload_n 0, 1) := by decide +kernel
theorem d_TC_access_88 : decode b_TC_access 88 = .ok (.aload 5, 2) := by decide +kernel
theorem d_TC_access_90 : decode b_TC_access 90 = .ok (.iload_n 2, 1) := by decide +kernel
theorem d_TC_access_91 : decode b_TC_access 91 = .ok (.invokevirtual 193, 3) := by decide +kernel
theorem d_TC_access_94 : decode b_TC_access 94 = .ok (.iload_n 3, 1) := by decide +kernel
theorem d_TC_access_95 : decode b_TC_access 95 = .ok (.ifCond .eq 21, 3) := by decide +kernel
theorem d_TC_access_98 : decode b_TC_access 98 = .ok (.aload_n 0, 1) := by decide +kernel
theorem d_TC_access_99 : decode b_TC_access 99 = .ok (.aload 5, 2) := by decide +kernel
theorem d_TC_access_101 : decode b_TC_access 101 = .ok (.aload_n 1, 1) := by decide +kernel
theorem d_TC_access_102 : decode b_TC_access 102 = .ok (.getfield 86, 3) := by decide +kernel
theorem d_TC_access_105 : decode b_TC_access 105 = .ok (.ifCond .le 7, 3) := by decide +kernel
theorem d_TC_access_108 : decode b_TC_access 108 = .ok (.iconst 1, 1) := by decide +kernel
theorem d_TC_access_109 : decode b_TC_access 109 = .ok (.goto 4, 3) := by decide +kernel
theorem d_TC_access_112 : decode b_TC_access 112 = .ok (.iconst 0, 1) := by decide +kernel
theorem d_TC_access_113 : decode b_TC_access 113 = .ok (.invokevirtual 197, 3) := by decide +kernel
theorem d_TC_access_116 : decode b_TC_access 116 = .ok (.aload_n 1, 1) := by decide +kernel
theorem d_TC_access_117 : decode b_TC_access 117 = .ok (.getfield 86, 3) := by decide +kernel
theorem d_TC_access_120 : decode b_TC_access 120 = .ok (.ifCond .le 22, 3) := by decide +kernel
theorem d_TC_access_123 : decode b_TC_access 123 = .ok (.aload 5, 2) := by decide +kernel
theorem d_TC_access_125 : decode b_TC_access 125 = .ok (.dup, 1) := by decide +kernel
theorem d_TC_access_126 : decode b_TC_access 126 = .ok (.getfield 68, 3) := by decide +kernel
theorem d_TC_access_129 : decode b_TC_access 129 = .ok (.iload_n 3, 1) := by decide +kernel
theorem d_TC_access_130 : decode b_TC_access 130 = .ok (.ifCond .eq 7, 3) := by decide +kernel
theorem d_TC_access_133 : decode b_TC_access 133 = .ok (.iconst 2, 1) := by decide +kernel
theorem d_TC_access_134 : decode b_TC_access 134 = .ok (.goto 4, 3) := by decide +kernel
theorem d_TC_access_137 : decode b_TC_access 137 = .ok (.iconst 1, 1) := by decide +kernel
theorem d_TC_access_138 : decode b_TC_access 138 = .ok (.ior, 1) := by decide +kernel
theorem d_TC_access_139 : decode b_TC_access 139 = .ok (.putfield 68, 3) := by decide +kernel
theorem d_TC_access_142 : decode b_TC_access 142 = .ok (.aload_n 0, 1) := by decide +kernel
theorem d_TC_access_143 : decode b_TC_access 143 = .ok (.dup, 1) := by decide +kernel
theorem d_TC_access_144 : decode b_TC_access 144 = .ok (.getfield 201, 3) := by decide +kernel
theorem d_TC_access_147 : decode b_TC_access 147 = .ok (.iconst 1, 1) := by decide +kernel
theorem d_TC_access_148 : decode b_TC_access 148 = .ok (.iadd, 1) := by decide +kernel
theorem d_TC_access_149 : decode b_TC_access 149 = .ok (.putfield 201, 3) := by decide +kernel
theorem d_TC_access_152 : decode b_TC_access 152 = .ok (.aload 5, 2) := by decide +kernel
theorem d_TC_access_154 : decode b_TC_access 154 = .ok (.aload_n 0, 1) := by decide +kernel
theorem d_TC_access_155 : decode b_TC_access 155 = .ok (.getfield 201, 3) := by decide +kernel
theorem d_TC_access_158 : decode b_TC_access 158 = .ok (.putfield 204, 3) := by decide +kernel
theorem d_TC_access_161 : decode b_TC_access 161 = .ok (.aload 5, 2) := by decide +kernel
theorem d_TC_access_163 : decode b_TC_access 163 = .ok (.areturn, 1) := by decide +kernel
theorem d_Cache_room_0 : decode b_Cache_room 0 = .ok (.aload_n 0, 1) := by decide +kernel
theorem d_Cache_room_1 : decode b_Cache_room 1 = .ok (.iload_n 1, 1) := by decide +kernel
theorem d_Cache_room_2 : decode b_Cache_room 2 = .ok (.invokevirtual 25, 3) := by decide +kernel
theorem d_Cache_room_5 : decode b_Cache_room 5 = .ok (.istore_n 2, 1) := by decide +kernel
theorem d_Cache_room_6 : decode b_Cache_room 6 = .ok (.aconst_null, 1) := by decide +kernel
theorem d_Cache_room_7 : decode b_Cache_room 7 = .ok (.astore_n 3, 1) := by decide +kernel
theorem d_Cache_room_8 : decode b_Cache_room 8 = .ok (.iload_n 2, 1) := by decide +kernel
theorem d_Cache_room_9 : decode b_Cache_room 9 = .ok (.istore 4, 2) := by decide +kernel
theorem d_Cache_room_11 : decode b_Cache_room 11 = .ok (.iload 4, 2) := by decide +kernel
theorem d_Cache_room_13 : decode b_Cache_room 13 = .ok (.iload_n 2, 1) := by decide +kernel
theorem d_Cache_room_14 : decode b_Cache_room 14 = .ok (.aload_n 0, 1) := by decide +kernel
theorem d_Cache_room_15 : decode b_Cache_room 15 = .ok (.getfield 15, 3) := by decide +kernel
theorem d_Cache_room_18 : decode b_Cache_room 18 = .ok (.iadd, 1) := by decide +kernel
theorem d_Cache_room_19 : decode b_Cache_room 19 = .ok (.if_icmp .ge 56, 3) := by decide +kernel
theorem d_Cache_room_22 : decode b_Cache_room 22 = .ok (.aload_n 0, 1) := by decide +kernel
theorem d_Cache_room_23 : decode b_Cache_room 23 = .ok (.getfield 20, 3) := by decide +kernel
theorem d_Cache_room_26 : decode b_Cache_room 26 = .ok (.iload 4, 2) := by decide +kernel
theorem d_Cache_room_28 : decode b_Cache_room 28 = .ok (.aaload, 1) := by decide +kernel
theorem d_Cache_room_29 : decode b_Cache_room 29 = .ok (.astore 5, 2) := by decide +kernel
theorem d_Cache_room_31 : decode b_Cache_room 31 = .ok (.aload 5, 2) := by decide +kernel
theorem d_Cache_room_33 : decode b_Cache_room 33 = .ok (.getfield 29, 3) := by decide +kernel
theorem d_Cache_room_36 : decode b_Cache_room 36 = .ok (.ifCond .ne 6, 3) := by decide +kernel
theorem d_Cache_room_39 : decode b_Cache_room 39 = .ok (.aload 5, 2) := by decide +kernel
theorem d_Cache_room_41 : decode b_Cache_room 41 = .ok (.areturn, 1) := by decide +kernel
theorem d_Cache_room_42 : decode b_Cache_room 42 = .ok (.aload 5, 2) := by decide +kernel
theorem d_Cache_room_44 : decode b_Cache_room 44 = .ok (.getfield 35, 3) := by decide +kernel
theorem d_Cache_room_47 : decode b_Cache_room 47 = .ok (.ifCond .ne 22, 3) := by decide +kernel
theorem d_Cache_room_50 : decode b_Cache_room 50 = .ok (.aload_n 3, 1) := by decide +kernel
theorem d_Cache_room_51 : decode b_Cache_room 51 = .ok (.ifnull 15, 3) := by decide +kernel
theorem d_Cache_room_54 : decode b_Cache_room 54 = .ok (.aload 5, 2) := by decide +kernel
theorem d_Cache_room_56 : decode b_Cache_room 56 = .ok (.getfield 38, 3) := by decide +kernel
theorem d_Cache_room_59 : decode b_Cache_room 59 = .ok (.aload_n 3, 1) := by decide +kernel
theorem d_Cache_room_60 : decode b_Cache_room 60 = .ok (.getfield 38, 3) := by decide +kernel
theorem d_Cache_room_63 : decode b_Cache_room 63 = .ok (.if_icmp .ge 6, 3) := by decide +kernel
theorem d_Cache_room_66 : decode b_Cache_room 66 = .ok (.aload 5, 2) := by decide +kernel
theorem d_Cache_room_68 : decode b_Cache_room 68 = .ok (.astore_n 3, 1) := by decide +kernel
theorem d_Cache_room_69 : decode b_Cache_room 69 = .ok (.iinc 4 1, 3) := by decide +kernel
theorem d_Cache_room_72 : decode b_Cache_room 72 = .ok (.goto (-61), 3) := by decide +kernel
theorem d_Cache_room_75 : decode b_Cache_room 75 = .ok (.aload_n 3, 1) := by decide +kernel
theorem d_Cache_room_76 : decode b_Cache_room 76 = .ok (.areturn, 1) := by decide +kernel
theorem d_TC_refill_0 : decode b_TC_refill 0 = .ok (.aload_n 1, 1) := by decide +kernel
theorem d_TC_refill_1 : decode b_TC_refill 1 = .ok (.getfield 62, 3) := by decide +kernel
theorem d_TC_refill_4 : decode b_TC_refill 4 = .ok (.iconst 2, 1) := by decide +kernel
theorem d_TC_refill_5 : decode b_TC_refill 5 = .ok (.if_icmp .ne 11, 3) := by decide +kernel
theorem d_TC_refill_8 : decode b_TC_refill 8 = .ok (.aload_n 0, 1) := by decide +kernel
theorem d_TC_refill_9 : decode b_TC_refill 9 = .ok (.getfield 16, 3) := by decide +kernel
theorem d_TC_refill_12 : decode b_TC_refill 12 = .ok (.aload_n 1, 1) := by decide +kernel
theorem d_TC_refill_13 : decode b_TC_refill 13 = .ok (.invokevirtual 207, 3) := by decide +kernel
theorem d_TC_refill_16 : decode b_TC_refill 16 = .ok (.aload_n 0, 1) := by decide +kernel
theorem d_TC_refill_17 : decode b_TC_refill 17 = .ok (.getfield 16, 3) := by decide +kernel
theorem d_TC_refill_20 : decode b_TC_refill 20 = .ok (.aload_n 1, 1) := by decide +kernel
theorem d_TC_refill_21 : decode b_TC_refill 21 = .ok (.iload_n 2, 1) := by decide +kernel
theorem d_TC_refill_22 : decode b_TC_refill 22 = .ok (.invokevirtual 211, 3) := by decide +kernel
theorem d_TC_refill_25 : decode b_TC_refill 25 = .ok (.aload_n 1, 1) := by decide +kernel
theorem d_TC_refill_26 : decode b_TC_refill 26 = .ok (.iconst 1, 1) := by decide +kernel
theorem d_TC_refill_27 : decode b_TC_refill 27 = .ok (.putfield 62, 3) := by decide +kernel
theorem d_TC_refill_30 : decode b_TC_refill 30 = .ok (.return_, 1) := by decide +kernel
theorem d_Store_fill_0 : decode b_Store_fill 0 = .ok (.aload_n 1, 1) := by decide +kernel
theorem d_Store_fill_1 : decode b_Store_fill 1 = .ok (.iload_n 2, 1) := by decide +kernel
theorem d_Store_fill_2 : decode b_Store_fill 2 = .ok (.putfield 15, 3) := by decide +kernel
theorem d_Store_fill_5 : decode b_Store_fill 5 = .ok (.aload_n 1, 1) := by decide +kernel
theorem d_Store_fill_6 : decode b_Store_fill 6 = .ok (.aload_n 0, 1) := by decide +kernel
theorem d_Store_fill_7 : decode b_Store_fill 7 = .ok (.iconst 2, 1) := by decide +kernel
theorem d_Store_fill_8 : decode b_Store_fill 8 = .ok (.iload_n 2, 1) := by decide +kernel
theorem d_Store_fill_9 : decode b_Store_fill 9 = .ok (.imul, 1) := by decide +kernel
theorem d_Store_fill_10 : decode b_Store_fill 10 = .ok (.invokevirtual 31, 3) := by decide +kernel
theorem d_Store_fill_13 : decode b_Store_fill 13 = .ok (.putfield 21, 3) := by decide +kernel
theorem d_Store_fill_16 : decode b_Store_fill 16 = .ok (.aload_n 1, 1) := by decide +kernel
theorem d_Store_fill_17 : decode b_Store_fill 17 = .ok (.aload_n 0, 1) := by decide +kernel
theorem d_Store_fill_18 : decode b_Store_fill 18 = .ok (.iconst 2, 1) := by decide +kernel
theorem d_Store_fill_19 : decode b_Store_fill 19 = .ok (.iload_n 2, 1) := by decide +kernel
theorem d_Store_fill_20 : decode b_Store_fill 20 = .ok (.imul, 1) := by decide +kernel
theorem d_Store_fill_21 : decode b_Store_fill 21 = .ok (.iconst 1, 1) := by decide +kernel
theorem d_Store_fill_22 : decode b_Store_fill 22 = .ok (.iadd, 1) := by decide +kernel
theorem d_Store_fill_23 : decode b_Store_fill 23 = .ok (.invokevirtual 31, 3) := by decide +kernel
theorem d_Store_fill_26 : decode b_Store_fill 26 = .ok (.putfield 28, 3) := by decide +kernel
theorem d_Store_fill_29 : decode b_Store_fill 29 = .ok (.return_, 1) := by decide +kernel
theorem d_TC_makeModified_0 : decode b_TC_makeModified 0 = .ok (.iload_n 2, 1) := by decide +kernel
theorem d_TC_makeModified_1 : decode b_TC_makeModified 1 = .ok (.ifCond .eq 28, 3) := by decide +kernel
theorem d_TC_makeModified_4 : decode b_TC_makeModified 4 = .ok (.aload_n 1, 1) := by decide +kernel
theorem d_TC_makeModified_5 : decode b_TC_makeModified 5 = .ok (.getfield 62, 3) := by decide +kernel
theorem d_TC_makeModified_8 : decode b_TC_makeModified 8 = .ok (.iconst 2, 1) := by decide +kernel
theorem d_TC_makeModified_9 : decode b_TC_makeModified 9 = .ok (.if_icmp .ne 20, 3) := by decide +kernel
theorem d_TC_makeModified_12 : decode b_TC_makeModified 12 = .ok (.aload_n 1, 1) := by decide +kernel
theorem d_TC_makeModified_13 : decode b_TC_makeModified 13 = .ok (.getfield 68, 3) := by decide +kernel
theorem d_TC_makeModified_16 : decode b_TC_makeModified 16 = .ok (.iconst 2, 1) := by decide +kernel
theorem d_TC_makeModified_17 : decode b_TC_makeModified 17 = .ok (.iand, 1) := by decide +kernel
theorem d_TC_makeModified_18 : decode b_TC_makeModified 18 = .ok (.ifCond .ne 11, 3) := by decide +kernel
theorem d_TC_makeModified_21 : decode b_TC_makeModified 21 = .ok (.aload_n 0, 1) := by decide +kernel
theorem d_TC_makeModified_22 : decode b_TC_makeModified 22 = .ok (.getfield 16, 3) := by decide +kernel
theorem d_TC_makeModified_25 : decode b_TC_makeModified 25 = .ok (.aload_n 1, 1) := by decide +kernel
theorem d_TC_makeModified_26 : decode b_TC_makeModified 26 = .ok (.invokevirtual 207, 3) := by decide +kernel
theorem d_TC_makeModified_29 : decode b_TC_makeModified 29 = .ok (.aload_n 1, 1) := by decide +kernel
theorem d_TC_makeModified_30 : decode b_TC_makeModified 30 = .ok (.iconst 2, 1) := by decide +kernel
theorem d_TC_makeModified_31 : decode b_TC_makeModified 31 = .ok (.putfield 62, 3) := by decide +kernel
theorem d_TC_makeModified_34 : decode b_TC_makeModified 34 = .ok (.return_, 1) := by decide +kernel
theorem d_TC_save_0 : decode b_TC_save 0 = .ok (.aload_n 1, 1) := by decide +kernel
theorem d_TC_save_1 : decode b_TC_save 1 = .ok (.iload_n 2, 1) := by decide +kernel
theorem d_TC_save_2 : decode b_TC_save 2 = .ok (.invokevirtual 173, 3) := by decide +kernel
theorem d_TC_save_5 : decode b_TC_save 5 = .ok (.istore_n 3, 1) := by decide +kernel
theorem d_TC_save_6 : decode b_TC_save 6 = .ok (.aload_n 0, 1) := by decide +kernel
theorem d_TC_save_7 : decode b_TC_save 7 = .ok (.aload_n 1, 1) := by decide +kernel
theorem d_TC_save_8 : decode b_TC_save 8 = .ok (.iload_n 3, 1) := by decide +kernel
theorem d_TC_save_9 : decode b_TC_save 9 = .ok (.invokestatic 44, 3) := by decide +kernel
theorem d_TC_save_12 : decode b_TC_save 12 = .ok (.iconst 1, 1) := by decide +kernel
theorem d_TC_save_13 : decode b_TC_save 13 = .ok (.invokevirtual 176, 3) := by decide +kernel
theorem d_TC_save_16 : decode b_TC_save 16 = .ok (.astore 4, 2) := by decide +kernel
theorem d_TC_save_18 : decode b_TC_save 18 = .ok (.aload 4, 2) := by decide +kernel
theorem d_TC_save_20 : decode b_TC_save 20 = .ok (.ifnonnull 5, 3) := by decide +kernel
theorem d_TC_save_23 : decode b_TC_save 23 = .ok (.iconst 2, 1) := by decide +kernel
theorem d_TC_save_24 : decode b_TC_save 24 = .ok (.ireturn, 1) := by decide +kernel
theorem d_TC_save_25 : decode b_TC_save 25 = .ok (.aload 4, 2) := by decide +kernel
theorem d_TC_save_27 : decode b_TC_save 27 = .ok (.iload_n 3, 1) := by decide +kernel
theorem d_TC_save_28 : decode b_TC_save 28 = .ok (.aload_n 1, 1) := by decide +kernel
theorem d_TC_save_29 : decode b_TC_save 29 = .ok (.getfield 104, 3) := by decide +kernel
theorem d_TC_save_32 : decode b_TC_save 32 = .ok (.iload_n 2, 1) := by decide +kernel
theorem d_TC_save_33 : decode b_TC_save 33 = .ok (.invokestatic 180, 3) := by decide +kernel
theorem d_TC_save_36 : decode b_TC_save 36 = .ok (.iaload, 1) := by decide +kernel
theorem d_TC_save_37 : decode b_TC_save 37 = .ok (.invokevirtual 183, 3) := by decide +kernel
theorem d_TC_save_40 : decode b_TC_save 40 = .ok (.iconst 4, 1) := by decide +kernel
theorem d_TC_save_41 : decode b_TC_save 41 = .ok (.ireturn, 1) := by decide +kernel
theorem d_Way_put_0 : decode b_Way_put 0 = .ok (.iload_n 1, 1) := by decide +kernel
theorem d_Way_put_1 : decode b_Way_put 1 = .ok (.iconst 1, 1) := by decide +kernel
theorem d_Way_put_2 : decode b_Way_put 2 = .ok (.iand, 1) := by decide +kernel
theorem d_Way_put_3 : decode b_Way_put 3 = .ok (.ifCond .ne 11, 3) := by decide +kernel
theorem d_Way_put_6 : decode b_Way_put 6 = .ok (.aload_n 0, 1) := by decide +kernel
theorem d_Way_put_7 : decode b_Way_put 7 = .ok (.iload_n 2, 1) := by decide +kernel
theorem d_Way_put_8 : decode b_Way_put 8 = .ok (.putfield 7, 3) := by decide +kernel
theorem d_Way_put_11 : decode b_Way_put 11 = .ok (.goto 8, 3) := by decide +kernel
theorem d_Way_put_14 : decode b_Way_put 14 = .ok (.aload_n 0, 1) := by decide +kernel
theorem d_Way_put_15 : decode b_Way_put 15 = .ok (.iload_n 2, 1) := by decide +kernel
theorem d_Way_put_16 : decode b_Way_put 16 = .ok (.putfield 13, 3) := by decide +kernel
theorem d_Way_put_19 : decode b_Way_put 19 = .ok (.return_, 1) := by decide +kernel
theorem d_Core_branch_0 : decode b_Core_branch 0 = .ok (.aload_n 0, 1) := by decide +kernel
theorem d_Core_branch_1 : decode b_Core_branch 1 = .ok (.getfield 15, 3) := by decide +kernel
theorem d_Core_branch_4 : decode b_Core_branch 4 = .ok (.iload_n 1, 1) := by decide +kernel
theorem d_Core_branch_5 : decode b_Core_branch 5 = .ok (.invokestatic 39, 3) := by decide +kernel
theorem d_Core_branch_8 : decode b_Core_branch 8 = .ok (.iaload, 1) := by decide +kernel
theorem d_Core_branch_9 : decode b_Core_branch 9 = .ok (.istore_n 2, 1) := by decide +kernel
theorem d_Core_branch_10 : decode b_Core_branch 10 = .ok (.iload_n 1, 1) := by decide +kernel
theorem d_Core_branch_11 : decode b_Core_branch 11 = .ok (.invokestatic 42, 3) := by decide +kernel
theorem d_Core_branch_14 : decode b_Core_branch 14 = .ok (.bipush 7, 2) := by decide +kernel
theorem d_Core_branch_16 : decode b_Core_branch 16 = .ok (.if_icmp .ne 15, 3) := by decide +kernel
theorem d_Core_branch_19 : decode b_Core_branch 19 = .ok (.iload_n 2, 1) := by decide +kernel
theorem d_Core_branch_20 : decode b_Core_branch 20 = .ok (.ifCond .ne 7, 3) := by decide +kernel
theorem d_Core_branch_23 : decode b_Core_branch 23 = .ok (.iconst 1, 1) := by decide +kernel
theorem d_Core_branch_24 : decode b_Core_branch 24 = .ok (.goto 25, 3) := by decide +kernel
theorem d_Core_branch_27 : decode b_Core_branch 27 = .ok (.iconst 0, 1) := by decide +kernel
theorem d_Core_branch_28 : decode b_Core_branch 28 = .ok (.goto 21, 3) := by decide +kernel
theorem d_Core_branch_31 : decode b_Core_branch 31 = .ok (.iload_n 2, 1) := by decide +kernel
theorem d_Core_branch_32 : decode b_Core_branch 32 = .ok (.aload_n 0, 1) := by decide +kernel
theorem d_Core_branch_33 : decode b_Core_branch 33 = .ok (.getfield 15, 3) := by decide +kernel
theorem d_Core_branch_36 : decode b_Core_branch 36 = .ok (.iload_n 1, 1) := by decide +kernel
theorem d_Core_branch_37 : decode b_Core_branch 37 = .ok (.invokestatic 32, 3) := by decide +kernel
theorem d_Core_branch_40 : decode b_Core_branch 40 = .ok (.iaload, 1) := by decide +kernel
theorem d_Core_branch_41 : decode b_Core_branch 41 = .ok (.if_icmp .ge 7, 3) := by decide +kernel
theorem d_Core_branch_44 : decode b_Core_branch 44 = .ok (.iconst 1, 1) := by decide +kernel
theorem d_Core_branch_45 : decode b_Core_branch 45 = .ok (.goto 4, 3) := by decide +kernel
theorem d_Core_branch_48 : decode b_Core_branch 48 = .ok (.iconst 0, 1) := by decide +kernel
theorem d_Core_branch_49 : decode b_Core_branch 49 = .ok (.istore_n 3, 1) := by decide +kernel
theorem d_Core_branch_50 : decode b_Core_branch 50 = .ok (.iload_n 3, 1) := by decide +kernel
theorem d_Core_branch_51 : decode b_Core_branch 51 = .ok (.ifCond .eq 19, 3) := by decide +kernel
theorem d_Core_branch_54 : decode b_Core_branch 54 = .ok (.aload_n 0, 1) := by decide +kernel
theorem d_Core_branch_55 : decode b_Core_branch 55 = .ok (.aload_n 0, 1) := by decide +kernel
theorem d_Core_branch_56 : decode b_Core_branch 56 = .ok (.getfield 51, 3) := by decide +kernel
theorem d_Core_branch_59 : decode b_Core_branch 59 = .ok (.iload_n 1, 1) := by decide +kernel
theorem d_Core_branch_60 : decode b_Core_branch 60 = .ok (.invokestatic 45, 3) := by decide +kernel
theorem d_Core_branch_63 : decode b_Core_branch 63 = .ok (.iadd, 1) := by decide +kernel
theorem d_Core_branch_64 : decode b_Core_branch 64 = .ok (.invokestatic 54, 3) := by decide +kernel
theorem d_Core_branch_67 : decode b_Core_branch 67 = .ok (.putfield 51, 3) := by decide +kernel
theorem d_Core_branch_70 : decode b_Core_branch 70 = .ok (.return_, 1) := by decide +kernel
theorem d_Core_begin_0 : decode b_Core_begin 0 = .ok (.aload_n 0, 1) := by decide +kernel
theorem d_Core_begin_1 : decode b_Core_begin 1 = .ok (.getfield 48, 3) := by decide +kernel
theorem d_Core_begin_4 : decode b_Core_begin 4 = .ok (.iconst 3, 1) := by decide +kernel
theorem d_Core_begin_5 : decode b_Core_begin 5 = .ok (.if_icmp .ne 10, 3) := by decide +kernel
theorem d_Core_begin_8 : decode b_Core_begin 8 = .ok (.aload_n 0, 1) := by decide +kernel
theorem d_Core_begin_9 : decode b_Core_begin 9 = .ok (.iconst 3, 1) := by decide +kernel
theorem d_Core_begin_10 : decode b_Core_begin 10 = .ok (.iconst 0, 1) := by decide +kernel
theorem d_Core_begin_11 : decode b_Core_begin 11 = .ok (.invokevirtual 57, 3) := by decide +kernel
theorem d_Core_begin_14 : decode b_Core_begin 14 = .ok (.ireturn, 1) := by decide +kernel
theorem d_Core_begin_15 : decode b_Core_begin 15 = .ok (.aload_n 0, 1) := by decide +kernel
theorem d_Core_begin_16 : decode b_Core_begin 16 = .ok (.getfield 48, 3) := by decide +kernel
theorem d_Core_begin_19 : decode b_Core_begin 19 = .ok (.ifCond .ne 31, 3) := by decide +kernel
theorem d_Core_begin_22 : decode b_Core_begin 22 = .ok (.aload_n 0, 1) := by decide +kernel
theorem d_Core_begin_23 : decode b_Core_begin 23 = .ok (.getfield 15, 3) := by decide +kernel
theorem d_Core_begin_26 : decode b_Core_begin 26 = .ok (.iconst 0, 1) := by decide +kernel
theorem d_Core_begin_27 : decode b_Core_begin 27 = .ok (.aload_n 0, 1) := by decide +kernel
theorem d_Core_begin_28 : decode b_Core_begin 28 = .ok (.getfield 18, 3) := by decide +kernel
theorem d_Core_begin_31 : decode b_Core_begin 31 = .ok (.iconst 0, 1) := by decide +kernel
theorem d_Core_begin_32 : decode b_Core_begin 32 = .ok (.bipush 8, 2) := by decide +kernel
theorem d_Core_begin_34 : decode b_Core_begin 34 = .ok (.invokestatic 61, 3) := by decide +kernel
theorem d_Core_begin_37 : decode b_Core_begin 37 = .ok (.aload_n 0, 1) := by decide +kernel
theorem d_Core_begin_38 : decode b_Core_begin 38 = .ok (.aload_n 0, 1) := by decide +kernel
theorem d_Core_begin_39 : decode b_Core_begin 39 = .ok (.getfield 51, 3) := by decide +kernel
theorem d_Core_begin_42 : decode b_Core_begin 42 = .ok (.iload_n 1, 1) := by decide +kernel
theorem d_Core_begin_43 : decode b_Core_begin 43 = .ok (.iadd, 1) := by decide +kernel
theorem d_Core_begin_44 : decode b_Core_begin 44 = .ok (.invokestatic 54, 3) := by decide +kernel
theorem d_Core_begin_47 : decode b_Core_begin 47 = .ok (.putfield 67, 3) := by decide +kernel
theorem d_Core_begin_50 : decode b_Core_begin 50 = .ok (.aload_n 0, 1) := by decide +kernel
theorem d_Core_begin_51 : decode b_Core_begin 51 = .ok (.dup, 1) := by decide +kernel
theorem d_Core_begin_52 : decode b_Core_begin 52 = .ok (.getfield 48, 3) := by decide +kernel
theorem d_Core_begin_55 : decode b_Core_begin 55 = .ok (.iconst 1, 1) := by decide +kernel
theorem d_Core_begin_56 : decode b_Core_begin 56 = .ok (.iadd, 1) := by decide +kernel
theorem d_Core_begin_57 : decode b_Core_begin 57 = .ok (.putfield 48, 3) := by decide +kernel
theorem d_Core_begin_60 : decode b_Core_begin 60 = .ok (.iconst 4, 1) := by decide +kernel
theorem d_Core_begin_61 : decode b_Core_begin 61 = .ok (.ireturn, 1) := by decide +kernel
theorem d_Core_fault_0 : decode b_Core_fault 0 = .ok (.aload_n 0, 1) := by decide +kernel
theorem d_Core_fault_1 : decode b_Core_fault 1 = .ok (.getfield 48, 3) := by decide +kernel
theorem d_Core_fault_4 : decode b_Core_fault 4 = .ok (.ifCond .le 10, 3) := by decide +kernel
theorem d_Core_fault_7 : decode b_Core_fault 7 = .ok (.aload_n 0, 1) := by decide +kernel
theorem d_Core_fault_8 : decode b_Core_fault 8 = .ok (.iconst 5, 1) := by decide +kernel
theorem d_Core_fault_9 : decode b_Core_fault 9 = .ok (.iconst 0, 1) := by decide +kernel
theorem d_Core_fault_10 : decode b_Core_fault 10 = .ok (.invokevirtual 57, 3) := by decide +kernel
theorem d_Core_fault_13 : decode b_Core_fault 13 = .ok (.ireturn, 1) := by decide +kernel
theorem d_Core_fault_14 : decode b_Core_fault 14 = .ok (.aload_n 0, 1) := by decide +kernel
theorem d_Core_fault_15 : decode b_Core_fault 15 = .ok (.iconst 1, 1) := by decide +kernel
theorem d_Core_fault_16 : decode b_Core_fault 16 = .ok (.putfield 75, 3) := by decide +kernel
theorem d_Core_fault_19 : decode b_Core_fault 19 = .ok (.aload_n 0, 1) := by decide +kernel
theorem d_Core_fault_20 : decode b_Core_fault 20 = .ok (.iload_n 1, 1) := by decide +kernel
theorem d_Core_fault_21 : decode b_Core_fault 21 = .ok (.putfield 51, 3) := by decide +kernel
theorem d_Core_fault_24 : decode b_Core_fault 24 = .ok (.iconst 0, 1) := by decide +kernel
theorem d_Core_fault_25 : decode b_Core_fault 25 = .ok (.ireturn, 1) := by decide +kernel
theorem d_Core_end_0 : decode b_Core_end 0 = .ok (.aload_n 0, 1) := by decide +kernel
theorem d_Core_end_1 : decode b_Core_end 1 = .ok (.dup, 1) := by decide +kernel
theorem d_Core_end_2 : decode b_Core_end 2 = .ok (.getfield 48, 3) := by decide +kernel
theorem d_Core_end_5 : decode b_Core_end 5 = .ok (.iconst 1, 1) := by decide +kernel
theorem d_Core_end_6 : decode b_Core_end 6 = .ok (.isub, 1) := by decide +kernel
theorem d_Core_end_7 : decode b_Core_end 7 = .ok (.putfield 48, 3) := by decide +kernel
theorem d_Core_end_10 : decode b_Core_end 10 = .ok (.aload_n 0, 1) := by decide +kernel
theorem d_Core_end_11 : decode b_Core_end 11 = .ok (.getfield 48, 3) := by decide +kernel
theorem d_Core_end_14 : decode b_Core_end 14 = .ok (.ifCond .le 5, 3) := by decide +kernel
theorem d_Core_end_17 : decode b_Core_end 17 = .ok (.iconst 4, 1) := by decide +kernel
theorem d_Core_end_18 : decode b_Core_end 18 = .ok (.ireturn, 1) := by decide +kernel
theorem d_Core_end_19 : decode b_Core_end 19 = .ok (.aload_n 0, 1) := by decide +kernel
theorem d_Core_end_20 : decode b_Core_end 20 = .ok (.getfield 28, 3) := by decide +kernel
theorem d_Core_end_23 : decode b_Core_end 23 = .ok (.invokevirtual 70, 3) := by decide +kernel
theorem d_Core_end_26 : decode b_Core_end 26 = .ok (.aload_n 0, 1) := by decide +kernel
theorem d_Core_end_27 : decode b_Core_end 27 = .ok (.getfield 21, 3) := by decide +kernel
theorem d_Core_end_30 : decode b_Core_end 30 = .ok (.iconst 0, 1) := by decide +kernel
theorem d_Core_end_31 : decode b_Core_end 31 = .ok (.dup2, 1) := by decide +kernel
theorem d_Core_end_32 : decode b_Core_end 32 = .ok (.iaload, 1) := by decide +kernel
theorem d_Core_end_33 : decode b_Core_end 33 = .ok (.iconst 1, 1) := by decide +kernel
theorem d_Core_end_34 : decode b_Core_end 34 = .ok (.iadd, 1) := by decide +kernel
theorem d_Core_end_35 : decode b_Core_end 35 = .ok (.iastore, 1) := by decide +kernel
theorem d_Core_end_36 : decode b_Core_end 36 = .ok (.iconst 3, 1) := by decide +kernel
theorem d_Core_end_37 : decode b_Core_end 37 = .ok (.ireturn, 1) := by decide +kernel
theorem d_Core_giveUp_0 : decode b_Core_giveUp 0 = .ok (.aload_n 0, 1) := by decide +kernel
theorem d_Core_giveUp_1 : decode b_Core_giveUp 1 = .ok (.getfield 48, 3) := by decide +kernel
theorem d_Core_giveUp_4 : decode b_Core_giveUp 4 = .ok (.ifCond .ne 5, 3) := by decide +kernel
theorem d_Core_giveUp_7 : decode b_Core_giveUp 7 = .ok (.iconst 4, 1) := by decide +kernel
theorem d_Core_giveUp_8 : decode b_Core_giveUp 8 = .ok (.ireturn, 1) := by decide +kernel
theorem d_Core_giveUp_9 : decode b_Core_giveUp 9 = .ok (.aload_n 0, 1) := by decide +kernel
theorem d_Core_giveUp_10 : decode b_Core_giveUp 10 = .ok (.iconst 4, 1) := by decide +kernel
theorem d_Core_giveUp_11 : decode b_Core_giveUp 11 = .ok (.bipush 8, 2) := by decide +kernel
theorem d_Core_giveUp_13 : decode b_Core_giveUp 13 = .ok (.iload_n 1, 1) := by decide +kernel
theorem d_Core_giveUp_14 : decode b_Core_giveUp 14 = .ok (.sipush 255, 3) := by decide +kernel
theorem d_Core_giveUp_17 : decode b_Core_giveUp 17 = .ok (.iand, 1) := by decide +kernel
theorem d_Core_giveUp_18 : decode b_Core_giveUp 18 = .ok (.imul, 1) := by decide +kernel
theorem d_Core_giveUp_19 : decode b_Core_giveUp 19 = .ok (.invokevirtual 57, 3) := by decide +kernel
theorem d_Core_giveUp_22 : decode b_Core_giveUp 22 = .ok (.ireturn, 1) := by decide +kernel
theorem d_TC_run_0 : decode b_TC_run 0 = .ok (.iload_n 2, 1) := by decide +kernel
theorem d_TC_run_1 : decode b_TC_run 1 = .ok (.ifCond .lt 9, 3) := by decide +kernel
theorem d_TC_run_4 : decode b_TC_run 4 = .ok (.iload_n 2, 1) := by decide +kernel
theorem d_TC_run_5 : decode b_TC_run 5 = .ok (.bipush 16, 2) := by decide +kernel
theorem d_TC_run_7 : decode b_TC_run 7 = .ok (.if_icmp .le 13, 3) := by decide +kernel
theorem d_TC_run_10 : decode b_TC_run 10 = .ok (.new 79, 3) := by decide +kernel
theorem d_TC_run_13 : decode b_TC_run 13 = .ok (.dup, 1) := by decide +kernel
theorem d_TC_run_14 : decode b_TC_run 14 = .ok (.ldc 81, 2) := by decide +kernel
theorem d_TC_run_16 : decode b_TC_run 16 = .ok (.invokespecial 83, 3) := by decide +kernel
theorem d_TC_run_19 : decode b_TC_run 19 = .ok (.athrow, 1) := by decide +kernel
theorem d_TC_run_20 : decode b_TC_run 20 = .ok (.iconst 0, 1) := by decide +kernel
theorem d_TC_run_21 : decode b_TC_run 21 = .ok (.istore_n 3, 1) := by decide +kernel
theorem d_TC_run_22 : decode b_TC_run 22 = .ok (.iconst 0, 1) := by decide +kernel
theorem d_TC_run_23 : decode b_TC_run 23 = .ok (.istore 4, 2) := by decide +kernel
theorem d_TC_run_25 : decode b_TC_run 25 = .ok (.iload 4, 2) := by decide +kernel
theorem d_TC_run_27 : decode b_TC_run 27 = .ok (.iload_n 2, 1) := by decide +kernel
theorem d_TC_run_28 : decode b_TC_run 28 = .ok (.if_icmp .ge 43, 3) := by decide +kernel
theorem d_TC_run_31 : decode b_TC_run 31 = .ok (.iload_n 1, 1) := by decide +kernel
theorem d_TC_run_32 : decode b_TC_run 32 = .ok (.iconst 2, 1) := by decide +kernel
theorem d_TC_run_33 : decode b_TC_run 33 = .ok (.iload 4, 2) := by decide +kernel
theorem d_TC_run_35 : decode b_TC_run 35 = .ok (.imul, 1) := by decide +kernel
theorem d_TC_run_36 : decode b_TC_run 36 = .ok (.iushr, 1) := by decide +kernel
theorem d_TC_run_37 : decode b_TC_run 37 = .ok (.iconst 3, 1) := by decide +kernel
theorem d_TC_run_38 : decode b_TC_run 38 = .ok (.iand, 1) := by decide +kernel
theorem d_TC_run_39 : decode b_TC_run 39 = .ok (.aload_n 0, 1) := by decide +kernel
theorem d_TC_run_40 : decode b_TC_run 40 = .ok (.getfield 22, 3) := by decide +kernel
theorem d_TC_run_43 : decode b_TC_run 43 = .ok (.arraylength, 1) := by decide +kernel
theorem d_TC_run_44 : decode b_TC_run 44 = .ok (.irem, 1) := by decide +kernel
theorem d_TC_run_45 : decode b_TC_run 45 = .ok (.istore 5, 2) := by decide +kernel
theorem d_TC_run_47 : decode b_TC_run 47 = .ok (.aload_n 0, 1) := by decide +kernel
theorem d_TC_run_48 : decode b_TC_run 48 = .ok (.aload_n 0, 1) := by decide +kernel
theorem d_TC_run_49 : decode b_TC_run 49 = .ok (.getfield 22, 3) := by decide +kernel
theorem d_TC_run_52 : decode b_TC_run 52 = .ok (.iload 5, 2) := by decide +kernel
theorem d_TC_run_54 : decode b_TC_run 54 = .ok (.aaload, 1) := by decide +kernel
theorem d_TC_run_55 : decode b_TC_run 55 = .ok (.invokevirtual 75, 3) := by decide +kernel
theorem d_TC_run_58 : decode b_TC_run 58 = .ok (.iconst 3, 1) := by decide +kernel
theorem d_TC_run_59 : decode b_TC_run 59 = .ok (.if_icmp .ne 6, 3) := by decide +kernel
theorem d_TC_run_62 : decode b_TC_run 62 = .ok (.iinc 3 1, 3) := by decide +kernel
theorem d_TC_run_65 : decode b_TC_run 65 = .ok (.iinc 4 1, 3) := by decide +kernel
theorem d_TC_run_68 : decode b_TC_run 68 = .ok (.goto (-43), 3) := by decide +kernel
theorem d_TC_run_71 : decode b_TC_run 71 = .ok (.iload_n 3, 1) := by decide +kernel
theorem d_TC_run_72 : decode b_TC_run 72 = .ok (.ireturn, 1) := by decide +kernel
theorem d_TC_jump_0 : decode b_TC_jump 0 = .ok (.iload_n 1, 1) := by decide +kernel
theorem d_TC_jump_1 : decode b_TC_jump 1 = .ok (.aload_n 0, 1) := by decide +kernel
theorem d_TC_jump_2 : decode b_TC_jump 2 = .ok (.getfield 22, 3) := by decide +kernel
theorem d_TC_jump_5 : decode b_TC_jump 5 = .ok (.arraylength, 1) := by decide +kernel
theorem d_TC_jump_6 : decode b_TC_jump 6 = .ok (.invokestatic 37, 3) := by decide +kernel
theorem d_TC_jump_9 : decode b_TC_jump 9 = .ok (.aload_n 0, 1) := by decide +kernel
theorem d_TC_jump_10 : decode b_TC_jump 10 = .ok (.getfield 22, 3) := by decide +kernel
theorem d_TC_jump_13 : decode b_TC_jump 13 = .ok (.iload_n 1, 1) := by decide +kernel
theorem d_TC_jump_14 : decode b_TC_jump 14 = .ok (.aaload, 1) := by decide +kernel
theorem d_TC_jump_15 : decode b_TC_jump 15 = .ok (.getfield 86, 3) := by decide +kernel
theorem d_TC_jump_18 : decode b_TC_jump 18 = .ok (.ifCond .le 13, 3) := by decide +kernel
theorem d_TC_jump_21 : decode b_TC_jump 21 = .ok (.new 89, 3) := by decide +kernel
theorem d_TC_jump_24 : decode b_TC_jump 24 = .ok (.dup, 1) := by decide +kernel
theorem d_TC_jump_25 : decode b_TC_jump 25 = .ok (.ldc 91, 2) := by decide +kernel
theorem d_TC_jump_27 : decode b_TC_jump 27 = .ok (.invokespecial 93, 3) := by decide +kernel
theorem d_TC_jump_30 : decode b_TC_jump 30 = .ok (.athrow, 1) := by decide +kernel
theorem d_TC_jump_31 : decode b_TC_jump 31 = .ok (.aload_n 0, 1) := by decide +kernel
theorem d_TC_jump_32 : decode b_TC_jump 32 = .ok (.getfield 22, 3) := by decide +kernel
theorem d_TC_jump_35 : decode b_TC_jump 35 = .ok (.iload_n 1, 1) := by decide +kernel
theorem d_TC_jump_36 : decode b_TC_jump 36 = .ok (.aaload, 1) := by decide +kernel
theorem d_TC_jump_37 : decode b_TC_jump 37 = .ok (.iload_n 2, 1) := by decide +kernel
theorem d_TC_jump_38 : decode b_TC_jump 38 = .ok (.invokestatic 94, 3) := by decide +kernel
theorem d_TC_jump_41 : decode b_TC_jump 41 = .ok (.putfield 97, 3) := by decide +kernel
theorem d_TC_jump_44 : decode b_TC_jump 44 = .ok (.aload_n 0, 1) := by decide +kernel
theorem d_TC_jump_45 : decode b_TC_jump 45 = .ok (.getfield 22, 3) := by decide +kernel
theorem d_TC_jump_48 : decode b_TC_jump 48 = .ok (.iload_n 1, 1) := by decide +kernel
theorem d_TC_jump_49 : decode b_TC_jump 49 = .ok (.aaload, 1) := by decide +kernel
theorem d_TC_jump_50 : decode b_TC_jump 50 = .ok (.iconst 0, 1) := by decide +kernel
theorem d_TC_jump_51 : decode b_TC_jump 51 = .ok (.putfield 100, 3) := by decide +kernel
theorem d_TC_jump_54 : decode b_TC_jump 54 = .ok (.return_, 1) := by decide +kernel
theorem d_TC_register_0 : decode b_TC_register 0 = .ok (.iload_n 1, 1) := by decide +kernel
theorem d_TC_register_1 : decode b_TC_register 1 = .ok (.aload_n 0, 1) := by decide +kernel
theorem d_TC_register_2 : decode b_TC_register 2 = .ok (.getfield 22, 3) := by decide +kernel
theorem d_TC_register_5 : decode b_TC_register 5 = .ok (.arraylength, 1) := by decide +kernel
theorem d_TC_register_6 : decode b_TC_register 6 = .ok (.invokestatic 37, 3) := by decide +kernel
theorem d_TC_register_9 : decode b_TC_register 9 = .ok (.iload_n 2, 1) := by decide +kernel
theorem d_TC_register_10 : decode b_TC_register 10 = .ok (.bipush 11, 2) := by decide +kernel
theorem d_TC_register_12 : decode b_TC_register 12 = .ok (.invokestatic 37, 3) := by decide +kernel
theorem d_TC_register_15 : decode b_TC_register 15 = .ok (.aload_n 0, 1) := by decide +kernel
theorem d_TC_register_16 : decode b_TC_register 16 = .ok (.getfield 22, 3) := by decide +kernel
theorem d_TC_register_19 : decode b_TC_register 19 = .ok (.iload_n 1, 1) := by decide +kernel
theorem d_TC_register_20 : decode b_TC_register 20 = .ok (.aaload, 1) := by decide +kernel
theorem d_TC_register_21 : decode b_TC_register 21 = .ok (.astore_n 3, 1) := by decide +kernel
theorem d_TC_register_22 : decode b_TC_register 22 = .ok (.iload_n 2, 1) := by decide +kernel
theorem d_TC_register_23 : decode b_TC_register 23 = .ok (.tableswitch 48 8 10 #[25, 30, 35], 25) := by decide +kernel
theorem d_TC_register_48 : decode b_TC_register 48 = .ok (.aload_n 3, 1) := by decide +kernel
theorem d_TC_register_49 : decode b_TC_register 49 = .ok (.getfield 97, 3) := by decide +kernel
theorem d_TC_register_52 : decode b_TC_register 52 = .ok (.ireturn, 1) := by decide +kernel
theorem d_TC_register_53 : decode b_TC_register 53 = .ok (.aload_n 3, 1) := by decide +kernel
theorem d_TC_register_54 : decode b_TC_register 54 = .ok (.getfield 86, 3) := by decide +kernel
theorem d_TC_register_57 : decode b_TC_register 57 = .ok (.ireturn, 1) := by decide +kernel
theorem d_TC_register_58 : decode b_TC_register 58 = .ok (.aload_n 3, 1) := by decide +kernel
theorem d_TC_register_59 : decode b_TC_register 59 = .ok (.getfield 100, 3) := by decide +kernel
theorem d_TC_register_62 : decode b_TC_register 62 = .ok (.ifCond .eq 7, 3) := by decide +kernel
theorem d_TC_register_65 : decode b_TC_register 65 = .ok (.iconst 1, 1) := by decide +kernel
theorem d_TC_register_66 : decode b_TC_register 66 = .ok (.goto 4, 3) := by decide +kernel
theorem d_TC_register_69 : decode b_TC_register 69 = .ok (.iconst 0, 1) := by decide +kernel
theorem d_TC_register_70 : decode b_TC_register 70 = .ok (.ireturn, 1) := by decide +kernel
theorem d_TC_register_71 : decode b_TC_register 71 = .ok (.aload_n 3, 1) := by decide +kernel
theorem d_TC_register_72 : decode b_TC_register 72 = .ok (.getfield 104, 3) := by decide +kernel
theorem d_TC_register_75 : decode b_TC_register 75 = .ok (.iload_n 2, 1) := by decide +kernel
theorem d_TC_register_76 : decode b_TC_register 76 = .ok (.iaload, 1) := by decide +kernel
theorem d_TC_register_77 : decode b_TC_register 77 = .ok (.ireturn, 1) := by decide +kernel
theorem d_TC_fate_0 : decode b_TC_fate 0 = .ok (.iload_n 1, 1) := by decide +kernel
theorem d_TC_fate_1 : decode b_TC_fate 1 = .ok (.aload_n 0, 1) := by decide +kernel
theorem d_TC_fate_2 : decode b_TC_fate 2 = .ok (.getfield 22, 3) := by decide +kernel
theorem d_TC_fate_5 : decode b_TC_fate 5 = .ok (.arraylength, 1) := by decide +kernel
theorem d_TC_fate_6 : decode b_TC_fate 6 = .ok (.invokestatic 37, 3) := by decide +kernel
theorem d_TC_fate_9 : decode b_TC_fate 9 = .ok (.iload_n 2, 1) := by decide +kernel
theorem d_TC_fate_10 : decode b_TC_fate 10 = .ok (.bipush 6, 2) := by decide +kernel
theorem d_TC_fate_12 : decode b_TC_fate 12 = .ok (.invokestatic 37, 3) := by decide +kernel
theorem d_TC_fate_15 : decode b_TC_fate 15 = .ok (.aload_n 0, 1) := by decide +kernel
theorem d_TC_fate_16 : decode b_TC_fate 16 = .ok (.getfield 22, 3) := by decide +kernel
theorem d_TC_fate_19 : decode b_TC_fate 19 = .ok (.iload_n 1, 1) := by decide +kernel
theorem d_TC_fate_20 : decode b_TC_fate 20 = .ok (.aaload, 1) := by decide +kernel
theorem d_TC_fate_21 : decode b_TC_fate 21 = .ok (.getfield 107, 3) := by decide +kernel
theorem d_TC_fate_24 : decode b_TC_fate 24 = .ok (.iload_n 2, 1) := by decide +kernel
theorem d_TC_fate_25 : decode b_TC_fate 25 = .ok (.iaload, 1) := by decide +kernel
theorem d_TC_fate_26 : decode b_TC_fate 26 = .ok (.ireturn, 1) := by decide +kernel
theorem d_TC_way_0 : decode b_TC_way 0 = .ok (.iload_n 1, 1) := by decide +kernel
theorem d_TC_way_1 : decode b_TC_way 1 = .ok (.aload_n 0, 1) := by decide +kernel
theorem d_TC_way_2 : decode b_TC_way 2 = .ok (.getfield 22, 3) := by decide +kernel
theorem d_TC_way_5 : decode b_TC_way 5 = .ok (.arraylength, 1) := by decide +kernel
theorem d_TC_way_6 : decode b_TC_way 6 = .ok (.invokestatic 37, 3) := by decide +kernel
theorem d_TC_way_9 : decode b_TC_way 9 = .ok (.aload_n 0, 1) := by decide +kernel
theorem d_TC_way_10 : decode b_TC_way 10 = .ok (.getfield 22, 3) := by decide +kernel
theorem d_TC_way_13 : decode b_TC_way 13 = .ok (.iload_n 1, 1) := by decide +kernel
theorem d_TC_way_14 : decode b_TC_way 14 = .ok (.aaload, 1) := by decide +kernel
theorem d_TC_way_15 : decode b_TC_way 15 = .ok (.getfield 54, 3) := by decide +kernel
theorem d_TC_way_18 : decode b_TC_way 18 = .ok (.astore 5, 2) := by decide +kernel
theorem d_TC_way_20 : decode b_TC_way 20 = .ok (.iload_n 2, 1) := by decide +kernel
theorem d_TC_way_21 : decode b_TC_way 21 = .ok (.aload 5, 2) := by decide +kernel
theorem d_TC_way_23 : decode b_TC_way 23 = .ok (.getfield 110, 3) := by decide +kernel
theorem d_TC_way_26 : decode b_TC_way 26 = .ok (.invokestatic 37, 3) := by decide +kernel
theorem d_TC_way_29 : decode b_TC_way 29 = .ok (.iload_n 3, 1) := by decide +kernel
theorem d_TC_way_30 : decode b_TC_way 30 = .ok (.aload 5, 2) := by decide +kernel
theorem d_TC_way_32 : decode b_TC_way 32 = .ok (.getfield 113, 3) := by decide +kernel
theorem d_TC_way_35 : decode b_TC_way 35 = .ok (.invokestatic 37, 3) := by decide +kernel
theorem d_TC_way_38 : decode b_TC_way 38 = .ok (.iload 4, 2) := by decide +kernel
theorem d_TC_way_40 : decode b_TC_way 40 = .ok (.iconst 5, 1) := by decide +kernel
theorem d_TC_way_41 : decode b_TC_way 41 = .ok (.invokestatic 37, 3) := by decide +kernel
theorem d_TC_way_44 : decode b_TC_way 44 = .ok (.aload 5, 2) := by decide +kernel
theorem d_TC_way_46 : decode b_TC_way 46 = .ok (.getfield 116, 3) := by decide +kernel
theorem d_TC_way_49 : decode b_TC_way 49 = .ok (.iload_n 2, 1) := by decide +kernel
theorem d_TC_way_50 : decode b_TC_way 50 = .ok (.aload 5, 2) := by decide +kernel
theorem d_TC_way_52 : decode b_TC_way 52 = .ok (.getfield 113, 3) := by decide +kernel
theorem d_TC_way_55 : decode b_TC_way 55 = .ok (.imul, 1) := by decide +kernel
theorem d_TC_way_56 : decode b_TC_way 56 = .ok (.iload_n 3, 1) := by decide +kernel
theorem d_TC_way_57 : decode b_TC_way 57 = .ok (.iadd, 1) := by decide +kernel
theorem d_TC_way_58 : decode b_TC_way 58 = .ok (.aaload, 1) := by decide +kernel
theorem d_TC_way_59 : decode b_TC_way 59 = .ok (.astore 6, 2) := by decide +kernel
theorem d_TC_way_61 : decode b_TC_way 61 = .ok (.iload 4, 2) := by decide +kernel
theorem d_TC_way_63 : decode b_TC_way 63 = .ok (.ifCond .ne 9, 3) := by decide +kernel
theorem d_TC_way_66 : decode b_TC_way 66 = .ok (.aload 6, 2) := by decide +kernel
theorem d_TC_way_68 : decode b_TC_way 68 = .ok (.getfield 62, 3) := by decide +kernel
theorem d_TC_way_71 : decode b_TC_way 71 = .ok (.ireturn, 1) := by decide +kernel
theorem d_TC_way_72 : decode b_TC_way 72 = .ok (.aload 6, 2) := by decide +kernel
theorem d_TC_way_74 : decode b_TC_way 74 = .ok (.getfield 62, 3) := by decide +kernel
theorem d_TC_way_77 : decode b_TC_way 77 = .ok (.ifCond .ne 7, 3) := by decide +kernel
theorem d_TC_way_80 : decode b_TC_way 80 = .ok (.iconst (-1), 1) := by decide +kernel
theorem d_TC_way_81 : decode b_TC_way 81 = .ok (.goto 10, 3) := by decide +kernel
theorem d_TC_way_84 : decode b_TC_way 84 = .ok (.aload 6, 2) := by decide +kernel
theorem d_TC_way_86 : decode b_TC_way 86 = .ok (.iload 4, 2) := by decide +kernel
theorem d_TC_way_88 : decode b_TC_way 88 = .ok (.invokevirtual 120, 3) := by decide +kernel
theorem d_TC_way_91 : decode b_TC_way 91 = .ok (.ireturn, 1) := by decide +kernel
theorem d_Way_tell_0 : decode b_Way_tell 0 = .ok (.iload_n 1, 1) := by decide +kernel
theorem d_Way_tell_1 : decode b_Way_tell 1 = .ok (.tableswitch 42 1 3 #[27, 32, 37], 27) := by decide +kernel
theorem d_Way_tell_28 : decode b_Way_tell 28 = .ok (.aload_n 0, 1) := by decide +kernel
theorem d_Way_tell_29 : decode b_Way_tell 29 = .ok (.getfield 16, 3) := by decide +kernel
theorem d_Way_tell_32 : decode b_Way_tell 32 = .ok (.ireturn, 1) := by decide +kernel
theorem d_Way_tell_33 : decode b_Way_tell 33 = .ok (.aload_n 0, 1) := by decide +kernel
theorem d_Way_tell_34 : decode b_Way_tell 34 = .ok (.getfield 19, 3) := by decide +kernel
theorem d_Way_tell_37 : decode b_Way_tell 37 = .ok (.ireturn, 1) := by decide +kernel
theorem d_Way_tell_38 : decode b_Way_tell 38 = .ok (.aload_n 0, 1) := by decide +kernel
theorem d_Way_tell_39 : decode b_Way_tell 39 = .ok (.getfield 7, 3) := by decide +kernel
theorem d_Way_tell_42 : decode b_Way_tell 42 = .ok (.ireturn, 1) := by decide +kernel
theorem d_Way_tell_43 : decode b_Way_tell 43 = .ok (.aload_n 0, 1) := by decide +kernel
theorem d_Way_tell_44 : decode b_Way_tell 44 = .ok (.getfield 13, 3) := by decide +kernel
theorem d_Way_tell_47 : decode b_Way_tell 47 = .ok (.ireturn, 1) := by decide +kernel
end
section
theorem d_Model_init_0 : decode b_Model_init 0 = .ok (.aload_n 0, 1) := by decide +kernel
theorem d_Model_init_1 : decode b_Model_init 1 = .ok (.invokespecial 1, 3) := by decide +kernel
theorem d_Model_init_4 : decode b_Model_init 4 = .ok (.aload_n 0, 1) := by decide +kernel
theorem d_Model_init_5 : decode b_Model_init 5 = .ok (.bipush 64, 2) := by decide +kernel
theorem d_Model_init_7 : decode b_Model_init 7 = .ok (.newarray .int, 2) := by decide +kernel
theorem d_Model_init_9 : decode b_Model_init 9 = .ok (.putfield 7, 3) := by decide +kernel
theorem d_Model_init_12 : decode b_Model_init 12 = .ok (.aload_n 0, 1) := by decide +kernel
theorem d_Model_init_13 : decode b_Model_init 13 = .ok (.bipush 24, 2) := by decide +kernel
theorem d_Model_init_15 : decode b_Model_init 15 = .ok (.newarray .int, 2) := by decide +kernel
theorem d_Model_init_17 : decode b_Model_init 17 = .ok (.putfield 13, 3) := by decide +kernel
theorem d_Model_init_20 : decode b_Model_init 20 = .ok (.aload_n 0, 1) := by decide +kernel
theorem d_Model_init_21 : decode b_Model_init 21 = .ok (.bipush 24, 2) := by decide +kernel
theorem d_Model_init_23 : decode b_Model_init 23 = .ok (.newarray .int, 2) := by decide +kernel
theorem d_Model_init_25 : decode b_Model_init 25 = .ok (.putfield 16, 3) := by decide +kernel
theorem d_Model_init_28 : decode b_Model_init 28 = .ok (.aload_n 0, 1) := by decide +kernel
theorem d_Model_init_29 : decode b_Model_init 29 = .ok (.bipush 48, 2) := by decide +kernel
theorem d_Model_init_31 : decode b_Model_init 31 = .ok (.newarray .int, 2) := by decide +kernel
theorem d_Model_init_33 : decode b_Model_init 33 = .ok (.putfield 19, 3) := by decide +kernel
theorem d_Model_init_36 : decode b_Model_init 36 = .ok (.aload_n 0, 1) := by decide +kernel
theorem d_Model_init_37 : decode b_Model_init 37 = .ok (.iconst 3, 1) := by decide +kernel
theorem d_Model_init_38 : decode b_Model_init 38 = .ok (.newarray .int, 2) := by decide +kernel
theorem d_Model_init_40 : decode b_Model_init 40 = .ok (.putfield 22, 3) := by decide +kernel
theorem d_Model_init_43 : decode b_Model_init 43 = .ok (.aload_n 0, 1) := by decide +kernel
theorem d_Model_init_44 : decode b_Model_init 44 = .ok (.iconst 3, 1) := by decide +kernel
theorem d_Model_init_45 : decode b_Model_init 45 = .ok (.newarray .int, 2) := by decide +kernel
theorem d_Model_init_47 : decode b_Model_init 47 = .ok (.putfield 25, 3) := by decide +kernel
theorem d_Model_init_50 : decode b_Model_init 50 = .ok (.aload_n 0, 1) := by decide +kernel
theorem d_Model_init_51 : decode b_Model_init 51 = .ok (.iconst 3, 1) := by decide +kernel
theorem d_Model_init_52 : decode b_Model_init 52 = .ok (.newarray .int, 2) := by decide +kernel
theorem d_Model_init_54 : decode b_Model_init 54 = .ok (.putfield 28, 3) := by decide +kernel
theorem d_Model_init_57 : decode b_Model_init 57 = .ok (.aload_n 0, 1) := by decide +kernel
theorem d_Model_init_58 : decode b_Model_init 58 = .ok (.iconst 3, 1) := by decide +kernel
theorem d_Model_init_59 : decode b_Model_init 59 = .ok (.newarray .boolean, 2) := by decide +kernel
theorem d_Model_init_61 : decode b_Model_init 61 = .ok (.putfield 31, 3) := by decide +kernel
theorem d_Model_init_64 : decode b_Model_init 64 = .ok (.aload_n 0, 1) := by decide +kernel
theorem d_Model_init_65 : decode b_Model_init 65 = .ok (.bipush 18, 2) := by decide +kernel
theorem d_Model_init_67 : decode b_Model_init 67 = .ok (.newarray .int, 2) := by decide +kernel
theorem d_Model_init_69 : decode b_Model_init 69 = .ok (.putfield 35, 3) := by decide +kernel
theorem d_Model_init_72 : decode b_Model_init 72 = .ok (.aload_n 0, 1) := by decide +kernel
theorem d_Model_init_73 : decode b_Model_init 73 = .ok (.bipush 36, 2) := by decide +kernel
theorem d_Model_init_75 : decode b_Model_init 75 = .ok (.newarray .int, 2) := by decide +kernel
theorem d_Model_init_77 : decode b_Model_init 77 = .ok (.putfield 38, 3) := by decide +kernel
theorem d_Model_init_80 : decode b_Model_init 80 = .ok (.aload_n 0, 1) := by decide +kernel
theorem d_Model_init_81 : decode b_Model_init 81 = .ok (.bipush 36, 2) := by decide +kernel
theorem d_Model_init_83 : decode b_Model_init 83 = .ok (.newarray .int, 2) := by decide +kernel
theorem d_Model_init_85 : decode b_Model_init 85 = .ok (.putfield 41, 3) := by decide +kernel
theorem d_Model_init_88 : decode b_Model_init 88 = .ok (.aload_n 0, 1) := by decide +kernel
theorem d_Model_init_89 : decode b_Model_init 89 = .ok (.bipush 36, 2) := by decide +kernel
theorem d_Model_init_91 : decode b_Model_init 91 = .ok (.newarray .int, 2) := by decide +kernel
theorem d_Model_init_93 : decode b_Model_init 93 = .ok (.putfield 44, 3) := by decide +kernel
theorem d_Model_init_96 : decode b_Model_init 96 = .ok (.aload_n 0, 1) := by decide +kernel
theorem d_Model_init_97 : decode b_Model_init 97 = .ok (.bipush 36, 2) := by decide +kernel
theorem d_Model_init_99 : decode b_Model_init 99 = .ok (.newarray .int, 2) := by decide +kernel
theorem d_Model_init_101 : decode b_Model_init 101 = .ok (.putfield 47, 3) := by decide +kernel
theorem d_Model_init_104 : decode b_Model_init 104 = .ok (.aload_n 0, 1) := by decide +kernel
theorem d_Model_init_105 : decode b_Model_init 105 = .ok (.bipush 36, 2) := by decide +kernel
theorem d_Model_init_107 : decode b_Model_init 107 = .ok (.newarray .int, 2) := by decide +kernel
theorem d_Model_init_109 : decode b_Model_init 109 = .ok (.putfield 50, 3) := by decide +kernel
theorem d_Model_init_112 : decode b_Model_init 112 = .ok (.aload_n 0, 1) := by decide +kernel
theorem d_Model_init_113 : decode b_Model_init 113 = .ok (.bipush 36, 2) := by decide +kernel
theorem d_Model_init_115 : decode b_Model_init 115 = .ok (.newarray .int, 2) := by decide +kernel
theorem d_Model_init_117 : decode b_Model_init 117 = .ok (.putfield 53, 3) := by decide +kernel
theorem d_Model_init_120 : decode b_Model_init 120 = .ok (.aload_n 0, 1) := by decide +kernel
theorem d_Model_init_121 : decode b_Model_init 121 = .ok (.iload_n 1, 1) := by decide +kernel
theorem d_Model_init_122 : decode b_Model_init 122 = .ok (.iconst 1, 1) := by decide +kernel
theorem d_Model_init_123 : decode b_Model_init 123 = .ok (.if_icmp .ge 7, 3) := by decide +kernel
theorem d_Model_init_126 : decode b_Model_init 126 = .ok (.iconst 1, 1) := by decide +kernel
theorem d_Model_init_127 : decode b_Model_init 127 = .ok (.goto 13, 3) := by decide +kernel
theorem d_Model_init_130 : decode b_Model_init 130 = .ok (.iload_n 1, 1) := by decide +kernel
theorem d_Model_init_131 : decode b_Model_init 131 = .ok (.iconst 3, 1) := by decide +kernel
theorem d_Model_init_132 : decode b_Model_init 132 = .ok (.if_icmp .le 7, 3) := by decide +kernel
theorem d_Model_init_135 : decode b_Model_init 135 = .ok (.iconst 3, 1) := by decide +kernel
theorem d_Model_init_136 : decode b_Model_init 136 = .ok (.goto 4, 3) := by decide +kernel
theorem d_Model_init_139 : decode b_Model_init 139 = .ok (.iload_n 1, 1) := by decide +kernel
theorem d_Model_init_140 : decode b_Model_init 140 = .ok (.putfield 56, 3) := by decide +kernel
theorem d_Model_init_143 : decode b_Model_init 143 = .ok (.aload_n 0, 1) := by decide +kernel
theorem d_Model_init_144 : decode b_Model_init 144 = .ok (.iload_n 2, 1) := by decide +kernel
theorem d_Model_init_145 : decode b_Model_init 145 = .ok (.iconst 2, 1) := by decide +kernel
theorem d_Model_init_146 : decode b_Model_init 146 = .ok (.if_icmp .ge 7, 3) := by decide +kernel
theorem d_Model_init_149 : decode b_Model_init 149 = .ok (.iconst 1, 1) := by decide +kernel
theorem d_Model_init_150 : decode b_Model_init 150 = .ok (.goto 13, 3) := by decide +kernel
theorem d_Model_init_153 : decode b_Model_init 153 = .ok (.iload_n 2, 1) := by decide +kernel
theorem d_Model_init_154 : decode b_Model_init 154 = .ok (.iconst 4, 1) := by decide +kernel
theorem d_Model_init_155 : decode b_Model_init 155 = .ok (.if_icmp .ge 7, 3) := by decide +kernel
theorem d_Model_init_158 : decode b_Model_init 158 = .ok (.iconst 2, 1) := by decide +kernel
theorem d_Model_init_159 : decode b_Model_init 159 = .ok (.goto 4, 3) := by decide +kernel
theorem d_Model_init_162 : decode b_Model_init 162 = .ok (.iconst 4, 1) := by decide +kernel
theorem d_Model_init_163 : decode b_Model_init 163 = .ok (.putfield 60, 3) := by decide +kernel
theorem d_Model_init_166 : decode b_Model_init 166 = .ok (.aload_n 0, 1) := by decide +kernel
theorem d_Model_init_167 : decode b_Model_init 167 = .ok (.iload_n 3, 1) := by decide +kernel
theorem d_Model_init_168 : decode b_Model_init 168 = .ok (.iconst 1, 1) := by decide +kernel
theorem d_Model_init_169 : decode b_Model_init 169 = .ok (.if_icmp .ge 7, 3) := by decide +kernel
theorem d_Model_init_172 : decode b_Model_init 172 = .ok (.iconst 1, 1) := by decide +kernel
theorem d_Model_init_173 : decode b_Model_init 173 = .ok (.goto 13, 3) := by decide +kernel
theorem d_Model_init_176 : decode b_Model_init 176 = .ok (.iload_n 3, 1) := by decide +kernel
theorem d_Model_init_177 : decode b_Model_init 177 = .ok (.iconst 3, 1) := by decide +kernel
theorem d_Model_init_178 : decode b_Model_init 178 = .ok (.if_icmp .le 7, 3) := by decide +kernel
theorem d_Model_init_181 : decode b_Model_init 181 = .ok (.iconst 3, 1) := by decide +kernel
theorem d_Model_init_182 : decode b_Model_init 182 = .ok (.goto 4, 3) := by decide +kernel
theorem d_Model_init_185 : decode b_Model_init 185 = .ok (.iload_n 3, 1) := by decide +kernel
theorem d_Model_init_186 : decode b_Model_init 186 = .ok (.putfield 63, 3) := by decide +kernel
theorem d_Model_init_189 : decode b_Model_init 189 = .ok (.return_, 1) := by decide +kernel
theorem d_Model_thrown_0 : decode b_Model_thrown 0 = .ok (.aload_n 0, 1) := by decide +kernel
theorem d_Model_thrown_1 : decode b_Model_thrown 1 = .ok (.getfield 66, 3) := by decide +kernel
theorem d_Model_thrown_4 : decode b_Model_thrown 4 = .ok (.ireturn, 1) := by decide +kernel
theorem d_Model_code_0 : decode b_Model_code 0 = .ok (.aload_n 0, 1) := by decide +kernel
theorem d_Model_code_1 : decode b_Model_code 1 = .ok (.aload_n 0, 1) := by decide +kernel
theorem d_Model_code_2 : decode b_Model_code 2 = .ok (.iload_n 1, 1) := by decide +kernel
theorem d_Model_code_3 : decode b_Model_code 3 = .ok (.invokevirtual 98, 3) := by decide +kernel
theorem d_Model_code_6 : decode b_Model_code 6 = .ok (.ifCond .eq 13, 3) := by decide +kernel
theorem d_Model_code_9 : decode b_Model_code 9 = .ok (.iload_n 2, 1) := by decide +kernel
theorem d_Model_code_10 : decode b_Model_code 10 = .ok (.ifCond .lt 9, 3) := by decide +kernel
theorem d_Model_code_13 : decode b_Model_code 13 = .ok (.iload_n 2, 1) := by decide +kernel
theorem d_Model_code_14 : decode b_Model_code 14 = .ok (.bipush 15, 2) := by decide +kernel
theorem d_Model_code_16 : decode b_Model_code 16 = .ok (.if_icmp .le 7, 3) := by decide +kernel
theorem d_Model_code_19 : decode b_Model_code 19 = .ok (.iconst 1, 1) := by decide +kernel
theorem d_Model_code_20 : decode b_Model_code 20 = .ok (.goto 4, 3) := by decide +kernel
theorem d_Model_code_23 : decode b_Model_code 23 = .ok (.iconst 0, 1) := by decide +kernel
theorem d_Model_code_24 : decode b_Model_code 24 = .ok (.putfield 66, 3) := by decide +kernel
theorem d_Model_code_27 : decode b_Model_code 27 = .ok (.aload_n 0, 1) := by decide +kernel
theorem d_Model_code_28 : decode b_Model_code 28 = .ok (.getfield 66, 3) := by decide +kernel
theorem d_Model_code_31 : decode b_Model_code 31 = .ok (.ifCond .ne 15, 3) := by decide +kernel
theorem d_Model_code_34 : decode b_Model_code 34 = .ok (.aload_n 0, 1) := by decide +kernel
theorem d_Model_code_35 : decode b_Model_code 35 = .ok (.getfield 19, 3) := by decide +kernel
theorem d_Model_code_38 : decode b_Model_code 38 = .ok (.bipush 16, 2) := by decide +kernel
theorem d_Model_code_40 : decode b_Model_code 40 = .ok (.iload_n 1, 1) := by decide +kernel
theorem d_Model_code_41 : decode b_Model_code 41 = .ok (.imul, 1) := by decide +kernel
theorem d_Model_code_42 : decode b_Model_code 42 = .ok (.iload_n 2, 1) := by decide +kernel
theorem d_Model_code_43 : decode b_Model_code 43 = .ok (.iadd, 1) := by decide +kernel
theorem d_Model_code_44 : decode b_Model_code 44 = .ok (.iload_n 3, 1) := by decide +kernel
theorem d_Model_code_45 : decode b_Model_code 45 = .ok (.iastore, 1) := by decide +kernel
theorem d_Model_code_46 : decode b_Model_code 46 = .ok (.return_, 1) := by decide +kernel
theorem d_Model_isCore_0 : decode b_Model_isCore 0 = .ok (.iload_n 1, 1) := by decide +kernel
theorem d_Model_isCore_1 : decode b_Model_isCore 1 = .ok (.ifCond .lt 15, 3) := by decide +kernel
theorem d_Model_isCore_4 : decode b_Model_isCore 4 = .ok (.iload_n 1, 1) := by decide +kernel
theorem d_Model_isCore_5 : decode b_Model_isCore 5 = .ok (.aload_n 0, 1) := by decide +kernel
theorem d_Model_isCore_6 : decode b_Model_isCore 6 = .ok (.getfield 56, 3) := by decide +kernel
theorem d_Model_isCore_9 : decode b_Model_isCore 9 = .ok (.if_icmp .ge 7, 3) := by decide +kernel
theorem d_Model_isCore_12 : decode b_Model_isCore 12 = .ok (.iconst 1, 1) := by decide +kernel
theorem d_Model_isCore_13 : decode b_Model_isCore 13 = .ok (.goto 4, 3) := by decide +kernel
theorem d_Model_isCore_16 : decode b_Model_isCore 16 = .ok (.iconst 0, 1) := by decide +kernel
theorem d_Model_isCore_17 : decode b_Model_isCore 17 = .ok (.ireturn, 1) := by decide +kernel
theorem d_Model_poke_0 : decode b_Model_poke 0 = .ok (.aload_n 0, 1) := by decide +kernel
theorem d_Model_poke_1 : decode b_Model_poke 1 = .ok (.iconst 0, 1) := by decide +kernel
theorem d_Model_poke_2 : decode b_Model_poke 2 = .ok (.putfield 66, 3) := by decide +kernel
theorem d_Model_poke_5 : decode b_Model_poke 5 = .ok (.iconst 0, 1) := by decide +kernel
theorem d_Model_poke_6 : decode b_Model_poke 6 = .ok (.istore_n 3, 1) := by decide +kernel
theorem d_Model_poke_7 : decode b_Model_poke 7 = .ok (.iload_n 3, 1) := by decide +kernel
theorem d_Model_poke_8 : decode b_Model_poke 8 = .ok (.aload_n 0, 1) := by decide +kernel
theorem d_Model_poke_9 : decode b_Model_poke 9 = .ok (.getfield 56, 3) := by decide +kernel
theorem d_Model_poke_12 : decode b_Model_poke 12 = .ok (.if_icmp .ge 21, 3) := by decide +kernel
theorem d_Model_poke_15 : decode b_Model_poke 15 = .ok (.aload_n 0, 1) := by decide +kernel
theorem d_Model_poke_16 : decode b_Model_poke 16 = .ok (.iload_n 3, 1) := by decide +kernel
theorem d_Model_poke_17 : decode b_Model_poke 17 = .ok (.iload_n 1, 1) := by decide +kernel
theorem d_Model_poke_18 : decode b_Model_poke 18 = .ok (.bipush 63, 2) := by decide +kernel
theorem d_Model_poke_20 : decode b_Model_poke 20 = .ok (.iand, 1) := by decide +kernel
theorem d_Model_poke_21 : decode b_Model_poke 21 = .ok (.iconst 2, 1) := by decide +kernel
theorem d_Model_poke_22 : decode b_Model_poke 22 = .ok (.idiv, 1) := by decide +kernel
theorem d_Model_poke_23 : decode b_Model_poke 23 = .ok (.iconst 1, 1) := by decide +kernel
theorem d_Model_poke_24 : decode b_Model_poke 24 = .ok (.invokevirtual 91, 3) := by decide +kernel
theorem d_Model_poke_27 : decode b_Model_poke 27 = .ok (.iinc 3 1, 3) := by decide +kernel
theorem d_Model_poke_30 : decode b_Model_poke 30 = .ok (.goto (-23), 3) := by decide +kernel
theorem d_Model_poke_33 : decode b_Model_poke 33 = .ok (.aload_n 0, 1) := by decide +kernel
theorem d_Model_poke_34 : decode b_Model_poke 34 = .ok (.getfield 7, 3) := by decide +kernel
theorem d_Model_poke_37 : decode b_Model_poke 37 = .ok (.iload_n 1, 1) := by decide +kernel
theorem d_Model_poke_38 : decode b_Model_poke 38 = .ok (.bipush 63, 2) := by decide +kernel
theorem d_Model_poke_40 : decode b_Model_poke 40 = .ok (.iand, 1) := by decide +kernel
theorem d_Model_poke_41 : decode b_Model_poke 41 = .ok (.iload_n 2, 1) := by decide +kernel
theorem d_Model_poke_42 : decode b_Model_poke 42 = .ok (.iastore, 1) := by decide +kernel
theorem d_Model_poke_43 : decode b_Model_poke 43 = .ok (.return_, 1) := by decide +kernel
theorem d_Model_meet_0 : decode b_Model_meet 0 = .ok (.aload_n 0, 1) := by decide +kernel
theorem d_Model_meet_1 : decode b_Model_meet 1 = .ok (.iload_n 1, 1) := by decide +kernel
theorem d_Model_meet_2 : decode b_Model_meet 2 = .ok (.iload_n 2, 1) := by decide +kernel
theorem d_Model_meet_3 : decode b_Model_meet 3 = .ok (.invokevirtual 73, 3) := by decide +kernel
theorem d_Model_meet_6 : decode b_Model_meet 6 = .ok (.istore 4, 2) := by decide +kernel
theorem d_Model_meet_8 : decode b_Model_meet 8 = .ok (.iload 4, 2) := by decide +kernel
theorem d_Model_meet_10 : decode b_Model_meet 10 = .ok (.iconst (-1), 1) := by decide +kernel
theorem d_Model_meet_11 : decode b_Model_meet 11 = .ok (.if_icmp .ne 4, 3) := by decide +kernel
theorem d_Model_meet_14 : decode b_Model_meet 14 = .ok (.return_, 1) := by decide +kernel
theorem d_Model_meet_15 : decode b_Model_meet 15 = .ok (.aload_n 0, 1) := by decide +kernel
theorem d_Model_meet_16 : decode b_Model_meet 16 = .ok (.getfield 44, 3) := by decide +kernel
theorem d_Model_meet_19 : decode b_Model_meet 19 = .ok (.iload 4, 2) := by decide +kernel
theorem d_Model_meet_21 : decode b_Model_meet 21 = .ok (.iaload, 1) := by decide +kernel
theorem d_Model_meet_22 : decode b_Model_meet 22 = .ok (.iconst 2, 1) := by decide +kernel
theorem d_Model_meet_23 : decode b_Model_meet 23 = .ok (.iand, 1) := by decide +kernel
theorem d_Model_meet_24 : decode b_Model_meet 24 = .ok (.ifCond .ne 17, 3) := by decide +kernel
theorem d_Model_meet_27 : decode b_Model_meet 27 = .ok (.iload_n 3, 1) := by decide +kernel
theorem d_Model_meet_28 : decode b_Model_meet 28 = .ok (.ifCond .eq 20, 3) := by decide +kernel
theorem d_Model_meet_31 : decode b_Model_meet 31 = .ok (.aload_n 0, 1) := by decide +kernel
theorem d_Model_meet_32 : decode b_Model_meet 32 = .ok (.getfield 44, 3) := by decide +kernel
theorem d_Model_meet_35 : decode b_Model_meet 35 = .ok (.iload 4, 2) := by decide +kernel
theorem d_Model_meet_37 : decode b_Model_meet 37 = .ok (.iaload, 1) := by decide +kernel
theorem d_Model_meet_38 : decode b_Model_meet 38 = .ok (.ifCond .eq 10, 3) := by decide +kernel
theorem d_Model_meet_41 : decode b_Model_meet 41 = .ok (.aload_n 0, 1) := by decide +kernel
theorem d_Model_meet_42 : decode b_Model_meet 42 = .ok (.iload_n 1, 1) := by decide +kernel
theorem d_Model_meet_43 : decode b_Model_meet 43 = .ok (.iconst 1, 1) := by decide +kernel
theorem d_Model_meet_44 : decode b_Model_meet 44 = .ok (.iconst 1, 1) := by decide +kernel
theorem d_Model_meet_45 : decode b_Model_meet 45 = .ok (.invokevirtual 77, 3) := by decide +kernel
theorem d_Model_meet_48 : decode b_Model_meet 48 = .ok (.aload_n 0, 1) := by decide +kernel
theorem d_Model_meet_49 : decode b_Model_meet 49 = .ok (.getfield 38, 3) := by decide +kernel
theorem d_Model_meet_52 : decode b_Model_meet 52 = .ok (.iload 4, 2) := by decide +kernel
theorem d_Model_meet_54 : decode b_Model_meet 54 = .ok (.iaload, 1) := by decide +kernel
theorem d_Model_meet_55 : decode b_Model_meet 55 = .ok (.ifCond .ne 4, 3) := by decide +kernel
theorem d_Model_meet_58 : decode b_Model_meet 58 = .ok (.return_, 1) := by decide +kernel
theorem d_Model_meet_59 : decode b_Model_meet 59 = .ok (.aload_n 0, 1) := by decide +kernel
theorem d_Model_meet_60 : decode b_Model_meet 60 = .ok (.getfield 38, 3) := by decide +kernel
theorem d_Model_meet_63 : decode b_Model_meet 63 = .ok (.iload 4, 2) := by decide +kernel
theorem d_Model_meet_65 : decode b_Model_meet 65 = .ok (.iaload, 1) := by decide +kernel
theorem d_Model_meet_66 : decode b_Model_meet 66 = .ok (.iconst 2, 1) := by decide +kernel
theorem d_Model_meet_67 : decode b_Model_meet 67 = .ok (.if_icmp .ne 9, 3) := by decide +kernel
theorem d_Model_meet_70 : decode b_Model_meet 70 = .ok (.aload_n 0, 1) := by decide +kernel
theorem d_Model_meet_71 : decode b_Model_meet 71 = .ok (.iload 4, 2) := by decide +kernel
theorem d_Model_meet_73 : decode b_Model_meet 73 = .ok (.invokevirtual 81, 3) := by decide +kernel
theorem d_Model_meet_76 : decode b_Model_meet 76 = .ok (.aload_n 0, 1) := by decide +kernel
theorem d_Model_meet_77 : decode b_Model_meet 77 = .ok (.getfield 38, 3) := by decide +kernel
theorem d_Model_meet_80 : decode b_Model_meet 80 = .ok (.iload 4, 2) := by decide +kernel
theorem d_Model_meet_82 : decode b_Model_meet 82 = .ok (.iload_n 3, 1) := by decide +kernel
theorem d_Model_meet_83 : decode b_Model_meet 83 = .ok (.ifCond .eq 7, 3) := by decide +kernel
theorem d_Model_meet_86 : decode b_Model_meet 86 = .ok (.iconst 0, 1) := by decide +kernel
theorem d_Model_meet_87 : decode b_Model_meet 87 = .ok (.goto 4, 3) := by decide +kernel
theorem d_Model_meet_90 : decode b_Model_meet 90 = .ok (.iconst 1, 1) := by decide +kernel
theorem d_Model_meet_91 : decode b_Model_meet 91 = .ok (.iastore, 1) := by decide +kernel
theorem d_Model_meet_92 : decode b_Model_meet 92 = .ok (.return_, 1) := by decide +kernel
theorem d_Model_find_0 : decode b_Model_find 0 = .ok (.iconst (-1), 1) := by decide +kernel
theorem d_Model_find_1 : decode b_Model_find 1 = .ok (.istore_n 3, 1) := by decide +kernel
theorem d_Model_find_2 : decode b_Model_find 2 = .ok (.iconst 0, 1) := by decide +kernel
theorem d_Model_find_3 : decode b_Model_find 3 = .ok (.istore 4, 2) := by decide +kernel
theorem d_Model_find_5 : decode b_Model_find 5 = .ok (.iload 4, 2) := by decide +kernel
theorem d_Model_find_7 : decode b_Model_find 7 = .ok (.aload_n 0, 1) := by decide +kernel
theorem d_Model_find_8 : decode b_Model_find 8 = .ok (.getfield 63, 3) := by decide +kernel
theorem d_Model_find_11 : decode b_Model_find 11 = .ok (.if_icmp .ge 43, 3) := by decide +kernel
theorem d_Model_find_14 : decode b_Model_find 14 = .ok (.aload_n 0, 1) := by decide +kernel
theorem d_Model_find_15 : decode b_Model_find 15 = .ok (.iload_n 1, 1) := by decide +kernel
theorem d_Model_find_16 : decode b_Model_find 16 = .ok (.iload_n 2, 1) := by decide +kernel
theorem d_Model_find_17 : decode b_Model_find 17 = .ok (.iload 4, 2) := by decide +kernel
theorem d_Model_find_19 : decode b_Model_find 19 = .ok (.invokevirtual 69, 3) := by decide +kernel
theorem d_Model_find_22 : decode b_Model_find 22 = .ok (.istore 5, 2) := by decide +kernel
theorem d_Model_find_24 : decode b_Model_find 24 = .ok (.aload_n 0, 1) := by decide +kernel
theorem d_Model_find_25 : decode b_Model_find 25 = .ok (.getfield 38, 3) := by decide +kernel
theorem d_Model_find_28 : decode b_Model_find 28 = .ok (.iload 5, 2) := by decide +kernel
theorem d_Model_find_30 : decode b_Model_find 30 = .ok (.iaload, 1) := by decide +kernel
theorem d_Model_find_31 : decode b_Model_find 31 = .ok (.ifCond .eq 17, 3) := by decide +kernel
theorem d_Model_find_34 : decode b_Model_find 34 = .ok (.aload_n 0, 1) := by decide +kernel
theorem d_Model_find_35 : decode b_Model_find 35 = .ok (.getfield 41, 3) := by decide +kernel
theorem d_Model_find_38 : decode b_Model_find 38 = .ok (.iload 5, 2) := by decide +kernel
theorem d_Model_find_40 : decode b_Model_find 40 = .ok (.iaload, 1) := by decide +kernel
theorem d_Model_find_41 : decode b_Model_find 41 = .ok (.iload_n 2, 1) := by decide +kernel
theorem d_Model_find_42 : decode b_Model_find 42 = .ok (.if_icmp .ne 6, 3) := by decide +kernel
theorem d_Model_find_45 : decode b_Model_find 45 = .ok (.iload 5, 2) := by decide +kernel
theorem d_Model_find_47 : decode b_Model_find 47 = .ok (.istore_n 3, 1) := by decide +kernel
theorem d_Model_find_48 : decode b_Model_find 48 = .ok (.iinc 4 1, 3) := by decide +kernel
theorem d_Model_find_51 : decode b_Model_find 51 = .ok (.goto (-46), 3) := by decide +kernel
theorem d_Model_find_54 : decode b_Model_find 54 = .ok (.iload_n 3, 1) := by decide +kernel
theorem d_Model_find_55 : decode b_Model_find 55 = .ok (.ireturn, 1) := by decide +kernel
theorem d_Model_place_0 : decode b_Model_place 0 = .ok (.bipush 12, 2) := by decide +kernel
theorem d_Model_place_2 : decode b_Model_place 2 = .ok (.iload_n 1, 1) := by decide +kernel
theorem d_Model_place_3 : decode b_Model_place 3 = .ok (.imul, 1) := by decide +kernel
theorem d_Model_place_4 : decode b_Model_place 4 = .ok (.iconst 3, 1) := by decide +kernel
theorem d_Model_place_5 : decode b_Model_place 5 = .ok (.iload_n 2, 1) := by decide +kernel
theorem d_Model_place_6 : decode b_Model_place 6 = .ok (.aload_n 0, 1) := by decide +kernel
theorem d_Model_place_7 : decode b_Model_place 7 = .ok (.getfield 60, 3) := by decide +kernel
theorem d_Model_place_10 : decode b_Model_place 10 = .ok (.irem, 1) := by decide +kernel
theorem d_Model_place_11 : decode b_Model_place 11 = .ok (.imul, 1) := by decide +kernel
theorem d_Model_place_12 : decode b_Model_place 12 = .ok (.iadd, 1) := by decide +kernel
theorem d_Model_place_13 : decode b_Model_place 13 = .ok (.iload_n 3, 1) := by decide +kernel
theorem d_Model_place_14 : decode b_Model_place 14 = .ok (.iadd, 1) := by decide +kernel
theorem d_Model_place_15 : decode b_Model_place 15 = .ok (.ireturn, 1) := by decide +kernel
theorem d_Model_abort_0 : decode b_Model_abort 0 = .ok (.bipush 12, 2) := by decide +kernel
theorem d_Model_abort_2 : decode b_Model_abort 2 = .ok (.iload_n 1, 1) := by decide +kernel
theorem d_Model_abort_3 : decode b_Model_abort 3 = .ok (.imul, 1) := by decide +kernel
theorem d_Model_abort_4 : decode b_Model_abort 4 = .ok (.istore 4, 2) := by decide +kernel
theorem d_Model_abort_6 : decode b_Model_abort 6 = .ok (.iload 4, 2) := by decide +kernel
theorem d_Model_abort_8 : decode b_Model_abort 8 = .ok (.bipush 12, 2) := by decide +kernel
theorem d_Model_abort_10 : decode b_Model_abort 10 = .ok (.iload_n 1, 1) := by decide +kernel
theorem d_Model_abort_11 : decode b_Model_abort 11 = .ok (.imul, 1) := by decide +kernel
theorem d_Model_abort_12 : decode b_Model_abort 12 = .ok (.bipush 12, 2) := by decide +kernel
theorem d_Model_abort_14 : decode b_Model_abort 14 = .ok (.iadd, 1) := by decide +kernel
theorem d_Model_abort_15 : decode b_Model_abort 15 = .ok (.if_icmp .ge 37, 3) := by decide +kernel
theorem d_Model_abort_18 : decode b_Model_abort 18 = .ok (.aload_n 0, 1) := by decide +kernel
theorem d_Model_abort_19 : decode b_Model_abort 19 = .ok (.getfield 44, 3) := by decide +kernel
theorem d_Model_abort_22 : decode b_Model_abort 22 = .ok (.iload 4, 2) := by decide +kernel
theorem d_Model_abort_24 : decode b_Model_abort 24 = .ok (.iaload, 1) := by decide +kernel
theorem d_Model_abort_25 : decode b_Model_abort 25 = .ok (.iconst 2, 1) := by decide +kernel
theorem d_Model_abort_26 : decode b_Model_abort 26 = .ok (.iand, 1) := by decide +kernel
theorem d_Model_abort_27 : decode b_Model_abort 27 = .ok (.ifCond .eq 11, 3) := by decide +kernel
theorem d_Model_abort_30 : decode b_Model_abort 30 = .ok (.aload_n 0, 1) := by decide +kernel
theorem d_Model_abort_31 : decode b_Model_abort 31 = .ok (.getfield 38, 3) := by decide +kernel
theorem d_Model_abort_34 : decode b_Model_abort 34 = .ok (.iload 4, 2) := by decide +kernel
theorem d_Model_abort_36 : decode b_Model_abort 36 = .ok (.iconst 0, 1) := by decide +kernel
theorem d_Model_abort_37 : decode b_Model_abort 37 = .ok (.iastore, 1) := by decide +kernel
theorem d_Model_abort_38 : decode b_Model_abort 38 = .ok (.aload_n 0, 1) := by decide +kernel
theorem d_Model_abort_39 : decode b_Model_abort 39 = .ok (.getfield 44, 3) := by decide +kernel
theorem d_Model_abort_42 : decode b_Model_abort 42 = .ok (.iload 4, 2) := by decide +kernel
theorem d_Model_abort_44 : decode b_Model_abort 44 = .ok (.iconst 0, 1) := by decide +kernel
theorem d_Model_abort_45 : decode b_Model_abort 45 = .ok (.iastore, 1) := by decide +kernel
theorem d_Model_abort_46 : decode b_Model_abort 46 = .ok (.iinc 4 1, 3) := by decide +kernel
theorem d_Model_abort_49 : decode b_Model_abort 49 = .ok (.goto (-43), 3) := by decide +kernel
theorem d_Model_abort_52 : decode b_Model_abort 52 = .ok (.iconst 0, 1) := by decide +kernel
theorem d_Model_abort_53 : decode b_Model_abort 53 = .ok (.istore 4, 2) := by decide +kernel
theorem d_Model_abort_55 : decode b_Model_abort 55 = .ok (.iload 4, 2) := by decide +kernel
theorem d_Model_abort_57 : decode b_Model_abort 57 = .ok (.bipush 8, 2) := by decide +kernel
theorem d_Model_abort_59 : decode b_Model_abort 59 = .ok (.if_icmp .ge 33, 3) := by decide +kernel
theorem d_Model_abort_62 : decode b_Model_abort 62 = .ok (.aload_n 0, 1) := by decide +kernel
theorem d_Model_abort_63 : decode b_Model_abort 63 = .ok (.getfield 13, 3) := by decide +kernel
theorem d_Model_abort_66 : decode b_Model_abort 66 = .ok (.bipush 8, 2) := by decide +kernel
theorem d_Model_abort_68 : decode b_Model_abort 68 = .ok (.iload_n 1, 1) := by decide +kernel
theorem d_Model_abort_69 : decode b_Model_abort 69 = .ok (.imul, 1) := by decide +kernel
theorem d_Model_abort_70 : decode b_Model_abort 70 = .ok (.iload 4, 2) := by decide +kernel
theorem d_Model_abort_72 : decode b_Model_abort 72 = .ok (.iadd, 1) := by decide +kernel
theorem d_Model_abort_73 : decode b_Model_abort 73 = .ok (.aload_n 0, 1) := by decide +kernel
theorem d_Model_abort_74 : decode b_Model_abort 74 = .ok (.getfield 16, 3) := by decide +kernel
theorem d_Model_abort_77 : decode b_Model_abort 77 = .ok (.bipush 8, 2) := by decide +kernel
theorem d_Model_abort_79 : decode b_Model_abort 79 = .ok (.iload_n 1, 1) := by decide +kernel
theorem d_Model_abort_80 : decode b_Model_abort 80 = .ok (.imul, 1) := by decide +kernel
theorem d_Model_abort_81 : decode b_Model_abort 81 = .ok (.iload 4, 2) := by decide +kernel
theorem d_Model_abort_83 : decode b_Model_abort 83 = .ok (.iadd, 1) := by decide +kernel
theorem d_Model_abort_84 : decode b_Model_abort 84 = .ok (.iaload, 1) := by decide +kernel
theorem d_Model_abort_85 : decode b_Model_abort 85 = .ok (.iastore, 1) := by decide +kernel
theorem d_Model_abort_86 : decode b_Model_abort 86 = .ok (.iinc 4 1, 3) := by decide +kernel
theorem d_Model_abort_89 : decode b_Model_abort 89 = .ok (.goto (-34), 3) := by decide +kernel
theorem d_Model_abort_92 : decode b_Model_abort 92 = .ok (.aload_n 0, 1) := by decide +kernel
theorem d_Model_abort_93 : decode b_Model_abort 93 = .ok (.getfield 13, 3) := by decide +kernel
theorem d_Model_abort_96 : decode b_Model_abort 96 = .ok (.bipush 8, 2) := by decide +kernel
theorem d_Model_abort_98 : decode b_Model_abort 98 = .ok (.iload_n 1, 1) := by decide +kernel
theorem d_Model_abort_99 : decode b_Model_abort 99 = .ok (.imul, 1) := by decide +kernel
theorem d_Model_abort_100 : decode b_Model_abort 100 = .ok (.bipush 7, 2) := by decide +kernel
theorem d_Model_abort_102 : decode b_Model_abort 102 = .ok (.iadd, 1) := by decide +kernel
theorem d_Model_abort_103 : decode b_Model_abort 103 = .ok (.iload_n 3, 1) := by decide +kernel
theorem d_Model_abort_104 : decode b_Model_abort 104 = .ok (.iastore, 1) := by decide +kernel
theorem d_Model_abort_105 : decode b_Model_abort 105 = .ok (.aload_n 0, 1) := by decide +kernel
theorem d_Model_abort_106 : decode b_Model_abort 106 = .ok (.getfield 22, 3) := by decide +kernel
theorem d_Model_abort_109 : decode b_Model_abort 109 = .ok (.iload_n 1, 1) := by decide +kernel
theorem d_Model_abort_110 : decode b_Model_abort 110 = .ok (.aload_n 0, 1) := by decide +kernel
theorem d_Model_abort_111 : decode b_Model_abort 111 = .ok (.getfield 28, 3) := by decide +kernel
theorem d_Model_abort_114 : decode b_Model_abort 114 = .ok (.iload_n 1, 1) := by decide +kernel
theorem d_Model_abort_115 : decode b_Model_abort 115 = .ok (.iaload, 1) := by decide +kernel
theorem d_Model_abort_116 : decode b_Model_abort 116 = .ok (.iastore, 1) := by decide +kernel
theorem d_Model_abort_117 : decode b_Model_abort 117 = .ok (.aload_n 0, 1) := by decide +kernel
theorem d_Model_abort_118 : decode b_Model_abort 118 = .ok (.getfield 25, 3) := by decide +kernel
theorem d_Model_abort_121 : decode b_Model_abort 121 = .ok (.iload_n 1, 1) := by decide +kernel
theorem d_Model_abort_122 : decode b_Model_abort 122 = .ok (.iconst 0, 1) := by decide +kernel
theorem d_Model_abort_123 : decode b_Model_abort 123 = .ok (.iastore, 1) := by decide +kernel
theorem d_Model_abort_124 : decode b_Model_abort 124 = .ok (.aload_n 0, 1) := by decide +kernel
theorem d_Model_abort_125 : decode b_Model_abort 125 = .ok (.getfield 35, 3) := by decide +kernel
theorem d_Model_abort_128 : decode b_Model_abort 128 = .ok (.bipush 6, 2) := by decide +kernel
theorem d_Model_abort_130 : decode b_Model_abort 130 = .ok (.iload_n 1, 1) := by decide +kernel
theorem d_Model_abort_131 : decode b_Model_abort 131 = .ok (.imul, 1) := by decide +kernel
theorem d_Model_abort_132 : decode b_Model_abort 132 = .ok (.iload_n 2, 1) := by decide +kernel
theorem d_Model_abort_133 : decode b_Model_abort 133 = .ok (.iadd, 1) := by decide +kernel
theorem d_Model_abort_134 : decode b_Model_abort 134 = .ok (.dup2, 1) := by decide +kernel
theorem d_Model_abort_135 : decode b_Model_abort 135 = .ok (.iaload, 1) := by decide +kernel
theorem d_Model_abort_136 : decode b_Model_abort 136 = .ok (.iconst 1, 1) := by decide +kernel
theorem d_Model_abort_137 : decode b_Model_abort 137 = .ok (.iadd, 1) := by decide +kernel
theorem d_Model_abort_138 : decode b_Model_abort 138 = .ok (.iastore, 1) := by decide +kernel
theorem d_Model_abort_139 : decode b_Model_abort 139 = .ok (.return_, 1) := by decide +kernel
theorem d_Model_toMemory_0 : decode b_Model_toMemory 0 = .ok (.aload_n 0, 1) := by decide +kernel
theorem d_Model_toMemory_1 : decode b_Model_toMemory 1 = .ok (.getfield 7, 3) := by decide +kernel
theorem d_Model_toMemory_4 : decode b_Model_toMemory 4 = .ok (.iconst 2, 1) := by decide +kernel
theorem d_Model_toMemory_5 : decode b_Model_toMemory 5 = .ok (.aload_n 0, 1) := by decide +kernel
theorem d_Model_toMemory_6 : decode b_Model_toMemory 6 = .ok (.getfield 41, 3) := by decide +kernel
theorem d_Model_toMemory_9 : decode b_Model_toMemory 9 = .ok (.iload_n 1, 1) := by decide +kernel
theorem d_Model_toMemory_10 : decode b_Model_toMemory 10 = .ok (.iaload, 1) := by decide +kernel
theorem d_Model_toMemory_11 : decode b_Model_toMemory 11 = .ok (.imul, 1) := by decide +kernel
theorem d_Model_toMemory_12 : decode b_Model_toMemory 12 = .ok (.aload_n 0, 1) := by decide +kernel
theorem d_Model_toMemory_13 : decode b_Model_toMemory 13 = .ok (.getfield 47, 3) := by decide +kernel
theorem d_Model_toMemory_16 : decode b_Model_toMemory 16 = .ok (.iload_n 1, 1) := by decide +kernel
theorem d_Model_toMemory_17 : decode b_Model_toMemory 17 = .ok (.iaload, 1) := by decide +kernel
theorem d_Model_toMemory_18 : decode b_Model_toMemory 18 = .ok (.iastore, 1) := by decide +kernel
theorem d_Model_toMemory_19 : decode b_Model_toMemory 19 = .ok (.aload_n 0, 1) := by decide +kernel
theorem d_Model_toMemory_20 : decode b_Model_toMemory 20 = .ok (.getfield 7, 3) := by decide +kernel
theorem d_Model_toMemory_23 : decode b_Model_toMemory 23 = .ok (.iconst 2, 1) := by decide +kernel
theorem d_Model_toMemory_24 : decode b_Model_toMemory 24 = .ok (.aload_n 0, 1) := by decide +kernel
theorem d_Model_toMemory_25 : decode b_Model_toMemory 25 = .ok (.getfield 41, 3) := by decide +kernel
theorem d_Model_toMemory_28 : decode b_Model_toMemory 28 = .ok (.iload_n 1, 1) := by decide +kernel
theorem d_Model_toMemory_29 : decode b_Model_toMemory 29 = .ok (.iaload, 1) := by decide +kernel
theorem d_Model_toMemory_30 : decode b_Model_toMemory 30 = .ok (.imul, 1) := by decide +kernel
theorem d_Model_toMemory_31 : decode b_Model_toMemory 31 = .ok (.iconst 1, 1) := by decide +kernel
theorem d_Model_toMemory_32 : decode b_Model_toMemory 32 = .ok (.iadd, 1) := by decide +kernel
theorem d_Model_toMemory_33 : decode b_Model_toMemory 33 = .ok (.aload_n 0, 1) := by decide +kernel
theorem d_Model_toMemory_34 : decode b_Model_toMemory 34 = .ok (.getfield 50, 3) := by decide +kernel
theorem d_Model_toMemory_37 : decode b_Model_toMemory 37 = .ok (.iload_n 1, 1) := by decide +kernel
theorem d_Model_toMemory_38 : decode b_Model_toMemory 38 = .ok (.iaload, 1) := by decide +kernel
theorem d_Model_toMemory_39 : decode b_Model_toMemory 39 = .ok (.iastore, 1) := by decide +kernel
theorem d_Model_toMemory_40 : decode b_Model_toMemory 40 = .ok (.return_, 1) := by decide +kernel
theorem d_Model_peek_0 : decode b_Model_peek 0 = .ok (.aload_n 0, 1) := by decide +kernel
theorem d_Model_peek_1 : decode b_Model_peek 1 = .ok (.iconst 0, 1) := by decide +kernel
theorem d_Model_peek_2 : decode b_Model_peek 2 = .ok (.putfield 66, 3) := by decide +kernel
theorem d_Model_peek_5 : decode b_Model_peek 5 = .ok (.iload_n 1, 1) := by decide +kernel
theorem d_Model_peek_6 : decode b_Model_peek 6 = .ok (.bipush 63, 2) := by decide +kernel
theorem d_Model_peek_8 : decode b_Model_peek 8 = .ok (.iand, 1) := by decide +kernel
theorem d_Model_peek_9 : decode b_Model_peek 9 = .ok (.iconst 2, 1) := by decide +kernel
theorem d_Model_peek_10 : decode b_Model_peek 10 = .ok (.idiv, 1) := by decide +kernel
theorem d_Model_peek_11 : decode b_Model_peek 11 = .ok (.istore_n 2, 1) := by decide +kernel
theorem d_Model_peek_12 : decode b_Model_peek 12 = .ok (.aload_n 0, 1) := by decide +kernel
theorem d_Model_peek_13 : decode b_Model_peek 13 = .ok (.getfield 7, 3) := by decide +kernel
theorem d_Model_peek_16 : decode b_Model_peek 16 = .ok (.iload_n 1, 1) := by decide +kernel
theorem d_Model_peek_17 : decode b_Model_peek 17 = .ok (.bipush 63, 2) := by decide +kernel
theorem d_Model_peek_19 : decode b_Model_peek 19 = .ok (.iand, 1) := by decide +kernel
theorem d_Model_peek_20 : decode b_Model_peek 20 = .ok (.iaload, 1) := by decide +kernel
theorem d_Model_peek_21 : decode b_Model_peek 21 = .ok (.istore_n 3, 1) := by decide +kernel
theorem d_Model_peek_22 : decode b_Model_peek 22 = .ok (.iconst 0, 1) := by decide +kernel
theorem d_Model_peek_23 : decode b_Model_peek 23 = .ok (.istore 4, 2) := by decide +kernel
theorem d_Model_peek_25 : decode b_Model_peek 25 = .ok (.iload 4, 2) := by decide +kernel
theorem d_Model_peek_27 : decode b_Model_peek 27 = .ok (.aload_n 0, 1) := by decide +kernel
theorem d_Model_peek_28 : decode b_Model_peek 28 = .ok (.getfield 56, 3) := by decide +kernel
theorem d_Model_peek_31 : decode b_Model_peek 31 = .ok (.if_icmp .ge 71, 3) := by decide +kernel
theorem d_Model_peek_34 : decode b_Model_peek 34 = .ok (.aload_n 0, 1) := by decide +kernel
theorem d_Model_peek_35 : decode b_Model_peek 35 = .ok (.iload 4, 2) := by decide +kernel
theorem d_Model_peek_37 : decode b_Model_peek 37 = .ok (.iload_n 2, 1) := by decide +kernel
theorem d_Model_peek_38 : decode b_Model_peek 38 = .ok (.invokevirtual 73, 3) := by decide +kernel
theorem d_Model_peek_41 : decode b_Model_peek 41 = .ok (.istore 5, 2) := by decide +kernel
theorem d_Model_peek_43 : decode b_Model_peek 43 = .ok (.iload 5, 2) := by decide +kernel
theorem d_Model_peek_45 : decode b_Model_peek 45 = .ok (.iconst (-1), 1) := by decide +kernel
theorem d_Model_peek_46 : decode b_Model_peek 46 = .ok (.if_icmp .eq 50, 3) := by decide +kernel
theorem d_Model_peek_49 : decode b_Model_peek 49 = .ok (.aload_n 0, 1) := by decide +kernel
theorem d_Model_peek_50 : decode b_Model_peek 50 = .ok (.getfield 38, 3) := by decide +kernel
theorem d_Model_peek_53 : decode b_Model_peek 53 = .ok (.iload 5, 2) := by decide +kernel
theorem d_Model_peek_55 : decode b_Model_peek 55 = .ok (.iaload, 1) := by decide +kernel
theorem d_Model_peek_56 : decode b_Model_peek 56 = .ok (.iconst 2, 1) := by decide +kernel
theorem d_Model_peek_57 : decode b_Model_peek 57 = .ok (.if_icmp .ne 39, 3) := by decide +kernel
theorem d_Model_peek_60 : decode b_Model_peek 60 = .ok (.aload_n 0, 1) := by decide +kernel
theorem d_Model_peek_61 : decode b_Model_peek 61 = .ok (.getfield 44, 3) := by decide +kernel
theorem d_Model_peek_64 : decode b_Model_peek 64 = .ok (.iload 5, 2) := by decide +kernel
theorem d_Model_peek_66 : decode b_Model_peek 66 = .ok (.iaload, 1) := by decide +kernel
theorem d_Model_peek_67 : decode b_Model_peek 67 = .ok (.iconst 2, 1) := by decide +kernel
theorem d_Model_peek_68 : decode b_Model_peek 68 = .ok (.iand, 1) := by decide +kernel
theorem d_Model_peek_69 : decode b_Model_peek 69 = .ok (.ifCond .ne 27, 3) := by decide +kernel
theorem d_Model_peek_72 : decode b_Model_peek 72 = .ok (.iload_n 1, 1) := by decide +kernel
theorem d_Model_peek_73 : decode b_Model_peek 73 = .ok (.iconst 1, 1) := by decide +kernel
theorem d_Model_peek_74 : decode b_Model_peek 74 = .ok (.iand, 1) := by decide +kernel
theorem d_Model_peek_75 : decode b_Model_peek 75 = .ok (.ifCond .ne 13, 3) := by decide +kernel
theorem d_Model_peek_78 : decode b_Model_peek 78 = .ok (.aload_n 0, 1) := by decide +kernel
theorem d_Model_peek_79 : decode b_Model_peek 79 = .ok (.getfield 47, 3) := by decide +kernel
theorem d_Model_peek_82 : decode b_Model_peek 82 = .ok (.iload 5, 2) := by decide +kernel
theorem d_Model_peek_84 : decode b_Model_peek 84 = .ok (.iaload, 1) := by decide +kernel
theorem d_Model_peek_85 : decode b_Model_peek 85 = .ok (.goto 10, 3) := by decide +kernel
theorem d_Model_peek_88 : decode b_Model_peek 88 = .ok (.aload_n 0, 1) := by decide +kernel
theorem d_Model_peek_89 : decode b_Model_peek 89 = .ok (.getfield 50, 3) := by decide +kernel
theorem d_Model_peek_92 : decode b_Model_peek 92 = .ok (.iload 5, 2) := by decide +kernel
theorem d_Model_peek_94 : decode b_Model_peek 94 = .ok (.iaload, 1) := by decide +kernel
theorem d_Model_peek_95 : decode b_Model_peek 95 = .ok (.istore_n 3, 1) := by decide +kernel
theorem d_Model_peek_96 : decode b_Model_peek 96 = .ok (.iinc 4 1, 3) := by decide +kernel
theorem d_Model_peek_99 : decode b_Model_peek 99 = .ok (.goto (-74), 3) := by decide +kernel
theorem d_Model_peek_102 : decode b_Model_peek 102 = .ok (.iload_n 3, 1) := by decide +kernel
theorem d_Model_peek_103 : decode b_Model_peek 103 = .ok (.ireturn, 1) := by decide +kernel
theorem d_Model_step_0 : decode b_Model_step 0 = .ok (.aload_n 0, 1) := by decide +kernel
theorem d_Model_step_1 : decode b_Model_step 1 = .ok (.aload_n 0, 1) := by decide +kernel
theorem d_Model_step_2 : decode b_Model_step 2 = .ok (.iload_n 1, 1) := by decide +kernel
theorem d_Model_step_3 : decode b_Model_step 3 = .ok (.invokevirtual 98, 3) := by decide +kernel
theorem d_Model_step_6 : decode b_Model_step 6 = .ok (.ifCond .eq 7, 3) := by decide +kernel
theorem d_Model_step_9 : decode b_Model_step 9 = .ok (.iconst 0, 1) := by decide +kernel
theorem d_Model_step_10 : decode b_Model_step 10 = .ok (.goto 4, 3) := by decide +kernel
theorem d_Model_step_13 : decode b_Model_step 13 = .ok (.iconst 1, 1) := by decide +kernel
theorem d_Model_step_14 : decode b_Model_step 14 = .ok (.putfield 66, 3) := by decide +kernel
theorem d_Model_step_17 : decode b_Model_step 17 = .ok (.aload_n 0, 1) := by decide +kernel
theorem d_Model_step_18 : decode b_Model_step 18 = .ok (.getfield 66, 3) := by decide +kernel
theorem d_Model_step_21 : decode b_Model_step 21 = .ok (.ifCond .ne 11, 3) := by decide +kernel
theorem d_Model_step_24 : decode b_Model_step 24 = .ok (.aload_n 0, 1) := by decide +kernel
theorem d_Model_step_25 : decode b_Model_step 25 = .ok (.iload_n 1, 1) := by decide +kernel
theorem d_Model_step_26 : decode b_Model_step 26 = .ok (.invokevirtual 117, 3) := by decide +kernel
theorem d_Model_step_29 : decode b_Model_step 29 = .ok (.goto 4, 3) := by decide +kernel
theorem d_Model_step_32 : decode b_Model_step 32 = .ok (.iconst 0, 1) := by decide +kernel
theorem d_Model_step_33 : decode b_Model_step 33 = .ok (.ireturn, 1) := by decide +kernel
theorem d_Model_stepped_0 : decode b_Model_stepped 0 = .ok (.aload_n 0, 1) := by decide +kernel
theorem d_Model_stepped_1 : decode b_Model_stepped 1 = .ok (.getfield 31, 3) := by decide +kernel
theorem d_Model_stepped_4 : decode b_Model_stepped 4 = .ok (.iload_n 1, 1) := by decide +kernel
theorem d_Model_stepped_5 : decode b_Model_stepped 5 = .ok (.baload, 1) := by decide +kernel
theorem d_Model_stepped_6 : decode b_Model_stepped 6 = .ok (.ifCond .eq 5, 3) := by decide +kernel
theorem d_Model_stepped_9 : decode b_Model_stepped 9 = .ok (.iconst 0, 1) := by decide +kernel
theorem d_Model_stepped_10 : decode b_Model_stepped 10 = .ok (.ireturn, 1) := by decide +kernel
theorem d_Model_stepped_11 : decode b_Model_stepped 11 = .ok (.aload_n 0, 1) := by decide +kernel
theorem d_Model_stepped_12 : decode b_Model_stepped 12 = .ok (.getfield 19, 3) := by decide +kernel
theorem d_Model_stepped_15 : decode b_Model_stepped 15 = .ok (.bipush 16, 2) := by decide +kernel
theorem d_Model_stepped_17 : decode b_Model_stepped 17 = .ok (.iload_n 1, 1) := by decide +kernel
theorem d_Model_stepped_18 : decode b_Model_stepped 18 = .ok (.imul, 1) := by decide +kernel
theorem d_Model_stepped_19 : decode b_Model_stepped 19 = .ok (.aload_n 0, 1) := by decide +kernel
theorem d_Model_stepped_20 : decode b_Model_stepped 20 = .ok (.getfield 22, 3) := by decide +kernel
theorem d_Model_stepped_23 : decode b_Model_stepped 23 = .ok (.iload_n 1, 1) := by decide +kernel
theorem d_Model_stepped_24 : decode b_Model_stepped 24 = .ok (.iaload, 1) := by decide +kernel
theorem d_Model_stepped_25 : decode b_Model_stepped 25 = .ok (.iadd, 1) := by decide +kernel
theorem d_Model_stepped_26 : decode b_Model_stepped 26 = .ok (.iaload, 1) := by decide +kernel
theorem d_Model_stepped_27 : decode b_Model_stepped 27 = .ok (.istore_n 2, 1) := by decide +kernel
theorem d_Model_stepped_28 : decode b_Model_stepped 28 = .ok (.bipush 8, 2) := by decide +kernel
theorem d_Model_stepped_30 : decode b_Model_stepped 30 = .ok (.iload_n 1, 1) := by decide +kernel
theorem d_Model_stepped_31 : decode b_Model_stepped 31 = .ok (.imul, 1) := by decide +kernel
theorem d_Model_stepped_32 : decode b_Model_stepped 32 = .ok (.istore_n 3, 1) := by decide +kernel
theorem d_Model_stepped_33 : decode b_Model_stepped 33 = .ok (.iload_n 3, 1) := by decide +kernel
theorem d_Model_stepped_34 : decode b_Model_stepped 34 = .ok (.iload_n 2, 1) := by decide +kernel
theorem d_Model_stepped_35 : decode b_Model_stepped 35 = .ok (.iconst 4, 1) := by decide +kernel
theorem d_Model_stepped_36 : decode b_Model_stepped 36 = .ok (.ishr, 1) := by decide +kernel
theorem d_Model_stepped_37 : decode b_Model_stepped 37 = .ok (.bipush 7, 2) := by decide +kernel
theorem d_Model_stepped_39 : decode b_Model_stepped 39 = .ok (.iand, 1) := by decide +kernel
theorem d_Model_stepped_40 : decode b_Model_stepped 40 = .ok (.iadd, 1) := by decide +kernel
theorem d_Model_stepped_41 : decode b_Model_stepped 41 = .ok (.istore 4, 2) := by decide +kernel
theorem d_Model_stepped_43 : decode b_Model_stepped 43 = .ok (.iload_n 3, 1) := by decide +kernel
theorem d_Model_stepped_44 : decode b_Model_stepped 44 = .ok (.iload_n 2, 1) := by decide +kernel
theorem d_Model_stepped_45 : decode b_Model_stepped 45 = .ok (.bipush 7, 2) := by decide +kernel
theorem d_Model_stepped_47 : decode b_Model_stepped 47 = .ok (.ishr, 1) := by decide +kernel
theorem d_Model_stepped_48 : decode b_Model_stepped 48 = .ok (.bipush 7, 2) := by decide +kernel
theorem d_Model_stepped_50 : decode b_Model_stepped 50 = .ok (.iand, 1) := by decide +kernel
theorem d_Model_stepped_51 : decode b_Model_stepped 51 = .ok (.iadd, 1) := by decide +kernel
theorem d_Model_stepped_52 : decode b_Model_stepped 52 = .ok (.istore 5, 2) := by decide +kernel
theorem d_Model_stepped_54 : decode b_Model_stepped 54 = .ok (.iload_n 2, 1) := by decide +kernel
theorem d_Model_stepped_55 : decode b_Model_stepped 55 = .ok (.bipush 11, 2) := by decide +kernel
theorem d_Model_stepped_57 : decode b_Model_stepped 57 = .ok (.ishr, 1) := by decide +kernel
theorem d_Model_stepped_58 : decode b_Model_stepped 58 = .ok (.istore 6, 2) := by decide +kernel
theorem d_Model_stepped_60 : decode b_Model_stepped 60 = .ok (.iload_n 3, 1) := by decide +kernel
theorem d_Model_stepped_61 : decode b_Model_stepped 61 = .ok (.iload 6, 2) := by decide +kernel
theorem d_Model_stepped_63 : decode b_Model_stepped 63 = .ok (.bipush 7, 2) := by decide +kernel
theorem d_Model_stepped_65 : decode b_Model_stepped 65 = .ok (.iand, 1) := by decide +kernel
theorem d_Model_stepped_66 : decode b_Model_stepped 66 = .ok (.iadd, 1) := by decide +kernel
theorem d_Model_stepped_67 : decode b_Model_stepped 67 = .ok (.istore 7, 2) := by decide +kernel
theorem d_Model_stepped_69 : decode b_Model_stepped 69 = .ok (.iload_n 2, 1) := by decide +kernel
theorem d_Model_stepped_70 : decode b_Model_stepped 70 = .ok (.bipush 15, 2) := by decide +kernel
theorem d_Model_stepped_72 : decode b_Model_stepped 72 = .ok (.iand, 1) := by decide +kernel
theorem d_Model_stepped_73 : decode b_Model_stepped 73 = .ok (.istore 8, 2) := by decide +kernel
theorem d_Model_stepped_75 : decode b_Model_stepped 75 = .ok (.iload 8, 2) := by decide +kernel
theorem d_Model_stepped_77 : decode b_Model_stepped 77 = .ok (.ifCond .ne 5, 3) := by decide +kernel
theorem d_Model_stepped_80 : decode b_Model_stepped 80 = .ok (.iconst 1, 1) := by decide +kernel
theorem d_Model_stepped_81 : decode b_Model_stepped 81 = .ok (.ireturn, 1) := by decide +kernel
theorem d_Model_stepped_82 : decode b_Model_stepped 82 = .ok (.aload_n 0, 1) := by decide +kernel
theorem d_Model_stepped_83 : decode b_Model_stepped 83 = .ok (.getfield 22, 3) := by decide +kernel
theorem d_Model_stepped_86 : decode b_Model_stepped 86 = .ok (.iload_n 1, 1) := by decide +kernel
theorem d_Model_stepped_87 : decode b_Model_stepped 87 = .ok (.aload_n 0, 1) := by decide +kernel
theorem d_Model_stepped_88 : decode b_Model_stepped 88 = .ok (.getfield 22, 3) := by decide +kernel
theorem d_Model_stepped_91 : decode b_Model_stepped 91 = .ok (.iload_n 1, 1) := by decide +kernel
theorem d_Model_stepped_92 : decode b_Model_stepped 92 = .ok (.iaload, 1) := by decide +kernel
theorem d_Model_stepped_93 : decode b_Model_stepped 93 = .ok (.iconst 1, 1) := by decide +kernel
theorem d_Model_stepped_94 : decode b_Model_stepped 94 = .ok (.iadd, 1) := by decide +kernel
theorem d_Model_stepped_95 : decode b_Model_stepped 95 = .ok (.bipush 15, 2) := by decide +kernel
theorem d_Model_stepped_97 : decode b_Model_stepped 97 = .ok (.iand, 1) := by decide +kernel
theorem d_Model_stepped_98 : decode b_Model_stepped 98 = .ok (.iastore, 1) := by decide +kernel
theorem d_Model_stepped_99 : decode b_Model_stepped 99 = .ok (.iload 8, 2) := by decide +kernel
theorem d_Model_stepped_101 : decode b_Model_stepped 101 = .ok (.iconst 5, 1) := by decide +kernel
theorem d_Model_stepped_102 : decode b_Model_stepped 102 = .ok (.if_icmp .eq 10, 3) := by decide +kernel
theorem d_Model_stepped_105 : decode b_Model_stepped 105 = .ok (.iload 8, 2) := by decide +kernel
theorem d_Model_stepped_107 : decode b_Model_stepped 107 = .ok (.bipush 6, 2) := by decide +kernel
theorem d_Model_stepped_109 : decode b_Model_stepped 109 = .ok (.if_icmp .ne 33, 3) := by decide +kernel
theorem d_Model_stepped_112 : decode b_Model_stepped 112 = .ok (.aload_n 0, 1) := by decide +kernel
theorem d_Model_stepped_113 : decode b_Model_stepped 113 = .ok (.iload_n 1, 1) := by decide +kernel
theorem d_Model_stepped_114 : decode b_Model_stepped 114 = .ok (.iload 4, 2) := by decide +kernel
theorem d_Model_stepped_116 : decode b_Model_stepped 116 = .ok (.aload_n 0, 1) := by decide +kernel
theorem d_Model_stepped_117 : decode b_Model_stepped 117 = .ok (.getfield 13, 3) := by decide +kernel
theorem d_Model_stepped_120 : decode b_Model_stepped 120 = .ok (.iload 5, 2) := by decide +kernel
theorem d_Model_stepped_122 : decode b_Model_stepped 122 = .ok (.iaload, 1) := by decide +kernel
theorem d_Model_stepped_123 : decode b_Model_stepped 123 = .ok (.iload 6, 2) := by decide +kernel
theorem d_Model_stepped_125 : decode b_Model_stepped 125 = .ok (.iadd, 1) := by decide +kernel
theorem d_Model_stepped_126 : decode b_Model_stepped 126 = .ok (.iload 8, 2) := by decide +kernel
theorem d_Model_stepped_128 : decode b_Model_stepped 128 = .ok (.bipush 6, 2) := by decide +kernel
theorem d_Model_stepped_130 : decode b_Model_stepped 130 = .ok (.if_icmp .ne 7, 3) := by decide +kernel
theorem d_Model_stepped_133 : decode b_Model_stepped 133 = .ok (.iconst 1, 1) := by decide +kernel
theorem d_Model_stepped_134 : decode b_Model_stepped 134 = .ok (.goto 4, 3) := by decide +kernel
theorem d_Model_stepped_137 : decode b_Model_stepped 137 = .ok (.iconst 0, 1) := by decide +kernel
theorem d_Model_stepped_138 : decode b_Model_stepped 138 = .ok (.invokevirtual 102, 3) := by decide +kernel
theorem d_Model_stepped_141 : decode b_Model_stepped 141 = .ok (.ireturn, 1) := by decide +kernel
theorem d_Model_stepped_142 : decode b_Model_stepped 142 = .ok (.iload 8, 2) := by decide +kernel
theorem d_Model_stepped_144 : decode b_Model_stepped 144 = .ok (.bipush 8, 2) := by decide +kernel
theorem d_Model_stepped_146 : decode b_Model_stepped 146 = .ok (.if_icmp .le 20, 3) := by decide +kernel
theorem d_Model_stepped_149 : decode b_Model_stepped 149 = .ok (.iload 8, 2) := by decide +kernel
theorem d_Model_stepped_151 : decode b_Model_stepped 151 = .ok (.bipush 12, 2) := by decide +kernel
theorem d_Model_stepped_153 : decode b_Model_stepped 153 = .ok (.if_icmp .ge 13, 3) := by decide +kernel
theorem d_Model_stepped_156 : decode b_Model_stepped 156 = .ok (.aload_n 0, 1) := by decide +kernel
theorem d_Model_stepped_157 : decode b_Model_stepped 157 = .ok (.iload_n 1, 1) := by decide +kernel
theorem d_Model_stepped_158 : decode b_Model_stepped 158 = .ok (.iload 8, 2) := by decide +kernel
theorem d_Model_stepped_160 : decode b_Model_stepped 160 = .ok (.iload 6, 2) := by decide +kernel
theorem d_Model_stepped_162 : decode b_Model_stepped 162 = .ok (.invokevirtual 106, 3) := by decide +kernel
theorem d_Model_stepped_165 : decode b_Model_stepped 165 = .ok (.ireturn, 1) := by decide +kernel
theorem d_Model_stepped_166 : decode b_Model_stepped 166 = .ok (.iload 8, 2) := by decide +kernel
theorem d_Model_stepped_168 : decode b_Model_stepped 168 = .ok (.tableswitch 251 1 13 #[68, 80, 105, 130, 251, 251, 155, 186, 251, 251, 251, 224, 240], 68) := by decide +kernel
theorem d_Model_stepped_236 : decode b_Model_stepped 236 = .ok (.aload_n 0, 1) := by decide +kernel
theorem d_Model_stepped_237 : decode b_Model_stepped 237 = .ok (.getfield 13, 3) := by decide +kernel
theorem d_Model_stepped_240 : decode b_Model_stepped 240 = .ok (.iload 4, 2) := by decide +kernel
theorem d_Model_stepped_242 : decode b_Model_stepped 242 = .ok (.iload 6, 2) := by decide +kernel
theorem d_Model_stepped_244 : decode b_Model_stepped 244 = .ok (.iastore, 1) := by decide +kernel
theorem d_Model_stepped_245 : decode b_Model_stepped 245 = .ok (.goto 180, 3) := by decide +kernel
theorem d_Model_stepped_248 : decode b_Model_stepped 248 = .ok (.aload_n 0, 1) := by decide +kernel
theorem d_Model_stepped_249 : decode b_Model_stepped 249 = .ok (.getfield 13, 3) := by decide +kernel
theorem d_Model_stepped_252 : decode b_Model_stepped 252 = .ok (.iload 4, 2) := by decide +kernel
theorem d_Model_stepped_254 : decode b_Model_stepped 254 = .ok (.aload_n 0, 1) := by decide +kernel
theorem d_Model_stepped_255 : decode b_Model_stepped 255 = .ok (.getfield 13, 3) := by decide +kernel
theorem d_Model_stepped_258 : decode b_Model_stepped 258 = .ok (.iload 5, 2) := by decide +kernel
theorem d_Model_stepped_260 : decode b_Model_stepped 260 = .ok (.iaload, 1) := by decide +kernel
theorem d_Model_stepped_261 : decode b_Model_stepped 261 = .ok (.aload_n 0, 1) := by decide +kernel
theorem d_Model_stepped_262 : decode b_Model_stepped 262 = .ok (.getfield 13, 3) := by decide +kernel
theorem d_Model_stepped_265 : decode b_Model_stepped 265 = .ok (.iload 7, 2) := by decide +kernel
theorem d_Model_stepped_267 : decode b_Model_stepped 267 = .ok (.iaload, 1) := by decide +kernel
theorem d_Model_stepped_268 : decode b_Model_stepped 268 = .ok (.iadd, 1) := by decide +kernel
theorem d_Model_stepped_269 : decode b_Model_stepped 269 = .ok (.iastore, 1) := by decide +kernel
theorem d_Model_stepped_270 : decode b_Model_stepped 270 = .ok (.goto 155, 3) := by decide +kernel
theorem d_Model_stepped_273 : decode b_Model_stepped 273 = .ok (.aload_n 0, 1) := by decide +kernel
theorem d_Model_stepped_274 : decode b_Model_stepped 274 = .ok (.getfield 13, 3) := by decide +kernel
theorem d_Model_stepped_277 : decode b_Model_stepped 277 = .ok (.iload 4, 2) := by decide +kernel
theorem d_Model_stepped_279 : decode b_Model_stepped 279 = .ok (.aload_n 0, 1) := by decide +kernel
theorem d_Model_stepped_280 : decode b_Model_stepped 280 = .ok (.getfield 13, 3) := by decide +kernel
theorem d_Model_stepped_283 : decode b_Model_stepped 283 = .ok (.iload 5, 2) := by decide +kernel
theorem d_Model_stepped_285 : decode b_Model_stepped 285 = .ok (.iaload, 1) := by decide +kernel
theorem d_Model_stepped_286 : decode b_Model_stepped 286 = .ok (.aload_n 0, 1) := by decide +kernel
theorem d_Model_stepped_287 : decode b_Model_stepped 287 = .ok (.getfield 13, 3) := by decide +kernel
theorem d_Model_stepped_290 : decode b_Model_stepped 290 = .ok (.iload 7, 2) := by decide +kernel
theorem d_Model_stepped_292 : decode b_Model_stepped 292 = .ok (.iaload, 1) := by decide +kernel
theorem d_Model_stepped_293 : decode b_Model_stepped 293 = .ok (.isub, 1) := by decide +kernel
theorem d_Model_stepped_294 : decode b_Model_stepped 294 = .ok (.iastore, 1) := by decide +kernel
theorem d_Model_stepped_295 : decode b_Model_stepped 295 = .ok (.goto 130, 3) := by decide +kernel
theorem d_Model_stepped_298 : decode b_Model_stepped 298 = .ok (.aload_n 0, 1) := by decide +kernel
theorem d_Model_stepped_299 : decode b_Model_stepped 299 = .ok (.getfield 13, 3) := by decide +kernel
theorem d_Model_stepped_302 : decode b_Model_stepped 302 = .ok (.iload 4, 2) := by decide +kernel
theorem d_Model_stepped_304 : decode b_Model_stepped 304 = .ok (.aload_n 0, 1) := by decide +kernel
theorem d_Model_stepped_305 : decode b_Model_stepped 305 = .ok (.getfield 13, 3) := by decide +kernel
theorem d_Model_stepped_308 : decode b_Model_stepped 308 = .ok (.iload 5, 2) := by decide +kernel
theorem d_Model_stepped_310 : decode b_Model_stepped 310 = .ok (.iaload, 1) := by decide +kernel
theorem d_Model_stepped_311 : decode b_Model_stepped 311 = .ok (.aload_n 0, 1) := by decide +kernel
theorem d_Model_stepped_312 : decode b_Model_stepped 312 = .ok (.getfield 13, 3) := by decide +kernel
theorem d_Model_stepped_315 : decode b_Model_stepped 315 = .ok (.iload 7, 2) := by decide +kernel
theorem d_Model_stepped_317 : decode b_Model_stepped 317 = .ok (.iaload, 1) := by decide +kernel
theorem d_Model_stepped_318 : decode b_Model_stepped 318 = .ok (.iand, 1) := by decide +kernel
theorem d_Model_stepped_319 : decode b_Model_stepped 319 = .ok (.iastore, 1) := by decide +kernel
theorem d_Model_stepped_320 : decode b_Model_stepped 320 = .ok (.goto 105, 3) := by decide +kernel
theorem d_Model_stepped_323 : decode b_Model_stepped 323 = .ok (.aload_n 0, 1) := by decide +kernel
theorem d_Model_stepped_324 : decode b_Model_stepped 324 = .ok (.getfield 13, 3) := by decide +kernel
theorem d_Model_stepped_327 : decode b_Model_stepped 327 = .ok (.iload 4, 2) := by decide +kernel
theorem d_Model_stepped_329 : decode b_Model_stepped 329 = .ok (.iaload, 1) := by decide +kernel
theorem d_Model_stepped_330 : decode b_Model_stepped 330 = .ok (.ifCond .ne 95, 3) := by decide +kernel
theorem d_Model_stepped_333 : decode b_Model_stepped 333 = .ok (.aload_n 0, 1) := by decide +kernel
theorem d_Model_stepped_334 : decode b_Model_stepped 334 = .ok (.getfield 22, 3) := by decide +kernel
theorem d_Model_stepped_337 : decode b_Model_stepped 337 = .ok (.iload_n 1, 1) := by decide +kernel
theorem d_Model_stepped_338 : decode b_Model_stepped 338 = .ok (.aload_n 0, 1) := by decide +kernel
theorem d_Model_stepped_339 : decode b_Model_stepped 339 = .ok (.getfield 22, 3) := by decide +kernel
theorem d_Model_stepped_342 : decode b_Model_stepped 342 = .ok (.iload_n 1, 1) := by decide +kernel
theorem d_Model_stepped_343 : decode b_Model_stepped 343 = .ok (.iaload, 1) := by decide +kernel
theorem d_Model_stepped_344 : decode b_Model_stepped 344 = .ok (.iload 6, 2) := by decide +kernel
theorem d_Model_stepped_346 : decode b_Model_stepped 346 = .ok (.iadd, 1) := by decide +kernel
theorem d_Model_stepped_347 : decode b_Model_stepped 347 = .ok (.bipush 15, 2) := by decide +kernel
theorem d_Model_stepped_349 : decode b_Model_stepped 349 = .ok (.iand, 1) := by decide +kernel
theorem d_Model_stepped_350 : decode b_Model_stepped 350 = .ok (.iastore, 1) := by decide +kernel
theorem d_Model_stepped_351 : decode b_Model_stepped 351 = .ok (.goto 74, 3) := by decide +kernel
theorem d_Model_stepped_354 : decode b_Model_stepped 354 = .ok (.aload_n 0, 1) := by decide +kernel
theorem d_Model_stepped_355 : decode b_Model_stepped 355 = .ok (.getfield 13, 3) := by decide +kernel
theorem d_Model_stepped_358 : decode b_Model_stepped 358 = .ok (.iload 4, 2) := by decide +kernel
theorem d_Model_stepped_360 : decode b_Model_stepped 360 = .ok (.iaload, 1) := by decide +kernel
theorem d_Model_stepped_361 : decode b_Model_stepped 361 = .ok (.aload_n 0, 1) := by decide +kernel
theorem d_Model_stepped_362 : decode b_Model_stepped 362 = .ok (.getfield 13, 3) := by decide +kernel
theorem d_Model_stepped_365 : decode b_Model_stepped 365 = .ok (.iload 5, 2) := by decide +kernel
theorem d_Model_stepped_367 : decode b_Model_stepped 367 = .ok (.iaload, 1) := by decide +kernel
theorem d_Model_stepped_368 : decode b_Model_stepped 368 = .ok (.if_icmp .ge 57, 3) := by decide +kernel
theorem d_Model_stepped_371 : decode b_Model_stepped 371 = .ok (.aload_n 0, 1) := by decide +kernel
theorem d_Model_stepped_372 : decode b_Model_stepped 372 = .ok (.getfield 22, 3) := by decide +kernel
theorem d_Model_stepped_375 : decode b_Model_stepped 375 = .ok (.iload_n 1, 1) := by decide +kernel
theorem d_Model_stepped_376 : decode b_Model_stepped 376 = .ok (.aload_n 0, 1) := by decide +kernel
theorem d_Model_stepped_377 : decode b_Model_stepped 377 = .ok (.getfield 22, 3) := by decide +kernel
theorem d_Model_stepped_380 : decode b_Model_stepped 380 = .ok (.iload_n 1, 1) := by decide +kernel
theorem d_Model_stepped_381 : decode b_Model_stepped 381 = .ok (.iaload, 1) := by decide +kernel
theorem d_Model_stepped_382 : decode b_Model_stepped 382 = .ok (.iload 6, 2) := by decide +kernel
theorem d_Model_stepped_384 : decode b_Model_stepped 384 = .ok (.iadd, 1) := by decide +kernel
theorem d_Model_stepped_385 : decode b_Model_stepped 385 = .ok (.bipush 15, 2) := by decide +kernel
theorem d_Model_stepped_387 : decode b_Model_stepped 387 = .ok (.iand, 1) := by decide +kernel
theorem d_Model_stepped_388 : decode b_Model_stepped 388 = .ok (.iastore, 1) := by decide +kernel
theorem d_Model_stepped_389 : decode b_Model_stepped 389 = .ok (.goto 36, 3) := by decide +kernel
theorem d_Model_stepped_392 : decode b_Model_stepped 392 = .ok (.aload_n 0, 1) := by decide +kernel
theorem d_Model_stepped_393 : decode b_Model_stepped 393 = .ok (.getfield 13, 3) := by decide +kernel
theorem d_Model_stepped_396 : decode b_Model_stepped 396 = .ok (.iload 4, 2) := by decide +kernel
theorem d_Model_stepped_398 : decode b_Model_stepped 398 = .ok (.aload_n 0, 1) := by decide +kernel
theorem d_Model_stepped_399 : decode b_Model_stepped 399 = .ok (.getfield 25, 3) := by decide +kernel
theorem d_Model_stepped_402 : decode b_Model_stepped 402 = .ok (.iload_n 1, 1) := by decide +kernel
theorem d_Model_stepped_403 : decode b_Model_stepped 403 = .ok (.iaload, 1) := by decide +kernel
theorem d_Model_stepped_404 : decode b_Model_stepped 404 = .ok (.iastore, 1) := by decide +kernel
theorem d_Model_stepped_405 : decode b_Model_stepped 405 = .ok (.goto 20, 3) := by decide +kernel
theorem d_Model_stepped_408 : decode b_Model_stepped 408 = .ok (.aload_n 0, 1) := by decide +kernel
theorem d_Model_stepped_409 : decode b_Model_stepped 409 = .ok (.getfield 13, 3) := by decide +kernel
theorem d_Model_stepped_412 : decode b_Model_stepped 412 = .ok (.iload 4, 2) := by decide +kernel
theorem d_Model_stepped_414 : decode b_Model_stepped 414 = .ok (.iload_n 1, 1) := by decide +kernel
theorem d_Model_stepped_415 : decode b_Model_stepped 415 = .ok (.iastore, 1) := by decide +kernel
theorem d_Model_stepped_416 : decode b_Model_stepped 416 = .ok (.goto 9, 3) := by decide +kernel
theorem d_Model_stepped_419 : decode b_Model_stepped 419 = .ok (.aload_n 0, 1) := by decide +kernel
theorem d_Model_stepped_420 : decode b_Model_stepped 420 = .ok (.iload_n 1, 1) := by decide +kernel
theorem d_Model_stepped_421 : decode b_Model_stepped 421 = .ok (.invokevirtual 109, 3) := by decide +kernel
theorem d_Model_stepped_424 : decode b_Model_stepped 424 = .ok (.ireturn, 1) := by decide +kernel
theorem d_Model_stepped_425 : decode b_Model_stepped 425 = .ok (.iconst 4, 1) := by decide +kernel
theorem d_Model_stepped_426 : decode b_Model_stepped 426 = .ok (.ireturn, 1) := by decide +kernel
theorem d_Model_moved_0 : decode b_Model_moved 0 = .ok (.aload_n 0, 1) := by decide +kernel
theorem d_Model_moved_1 : decode b_Model_moved 1 = .ok (.iload_n 1, 1) := by decide +kernel
theorem d_Model_moved_2 : decode b_Model_moved 2 = .ok (.iload_n 3, 1) := by decide +kernel
theorem d_Model_moved_3 : decode b_Model_moved 3 = .ok (.bipush 63, 2) := by decide +kernel
theorem d_Model_moved_5 : decode b_Model_moved 5 = .ok (.iand, 1) := by decide +kernel
theorem d_Model_moved_6 : decode b_Model_moved 6 = .ok (.iconst 2, 1) := by decide +kernel
theorem d_Model_moved_7 : decode b_Model_moved 7 = .ok (.idiv, 1) := by decide +kernel
theorem d_Model_moved_8 : decode b_Model_moved 8 = .ok (.iload 4, 2) := by decide +kernel
theorem d_Model_moved_10 : decode b_Model_moved 10 = .ok (.invokevirtual 113, 3) := by decide +kernel
theorem d_Model_moved_13 : decode b_Model_moved 13 = .ok (.istore 5, 2) := by decide +kernel
theorem d_Model_moved_15 : decode b_Model_moved 15 = .ok (.iload 5, 2) := by decide +kernel
theorem d_Model_moved_17 : decode b_Model_moved 17 = .ok (.iconst (-1), 1) := by decide +kernel
theorem d_Model_moved_18 : decode b_Model_moved 18 = .ok (.if_icmp .ne 5, 3) := by decide +kernel
theorem d_Model_moved_21 : decode b_Model_moved 21 = .ok (.iconst 2, 1) := by decide +kernel
theorem d_Model_moved_22 : decode b_Model_moved 22 = .ok (.ireturn, 1) := by decide +kernel
theorem d_Model_moved_23 : decode b_Model_moved 23 = .ok (.iload_n 3, 1) := by decide +kernel
theorem d_Model_moved_24 : decode b_Model_moved 24 = .ok (.iconst 1, 1) := by decide +kernel
theorem d_Model_moved_25 : decode b_Model_moved 25 = .ok (.iand, 1) := by decide +kernel
theorem d_Model_moved_26 : decode b_Model_moved 26 = .ok (.ifCond .ne 7, 3) := by decide +kernel
theorem d_Model_moved_29 : decode b_Model_moved 29 = .ok (.iconst 1, 1) := by decide +kernel
theorem d_Model_moved_30 : decode b_Model_moved 30 = .ok (.goto 4, 3) := by decide +kernel
theorem d_Model_moved_33 : decode b_Model_moved 33 = .ok (.iconst 0, 1) := by decide +kernel
theorem d_Model_moved_34 : decode b_Model_moved 34 = .ok (.istore 6, 2) := by decide +kernel
theorem d_Model_moved_36 : decode b_Model_moved 36 = .ok (.iload 4, 2) := by decide +kernel
theorem d_Model_moved_38 : decode b_Model_moved 38 = .ok (.ifCond .ne 34, 3) := by decide +kernel
theorem d_Model_moved_41 : decode b_Model_moved 41 = .ok (.aload_n 0, 1) := by decide +kernel
theorem d_Model_moved_42 : decode b_Model_moved 42 = .ok (.getfield 13, 3) := by decide +kernel
theorem d_Model_moved_45 : decode b_Model_moved 45 = .ok (.iload_n 2, 1) := by decide +kernel
theorem d_Model_moved_46 : decode b_Model_moved 46 = .ok (.iload 6, 2) := by decide +kernel
theorem d_Model_moved_48 : decode b_Model_moved 48 = .ok (.ifCond .eq 13, 3) := by decide +kernel
theorem d_Model_moved_51 : decode b_Model_moved 51 = .ok (.aload_n 0, 1) := by decide +kernel
theorem d_Model_moved_52 : decode b_Model_moved 52 = .ok (.getfield 47, 3) := by decide +kernel
theorem d_Model_moved_55 : decode b_Model_moved 55 = .ok (.iload 5, 2) := by decide +kernel
theorem d_Model_moved_57 : decode b_Model_moved 57 = .ok (.iaload, 1) := by decide +kernel
theorem d_Model_moved_58 : decode b_Model_moved 58 = .ok (.goto 10, 3) := by decide +kernel
theorem d_Model_moved_61 : decode b_Model_moved 61 = .ok (.aload_n 0, 1) := by decide +kernel
theorem d_Model_moved_62 : decode b_Model_moved 62 = .ok (.getfield 50, 3) := by decide +kernel
theorem d_Model_moved_65 : decode b_Model_moved 65 = .ok (.iload 5, 2) := by decide +kernel
theorem d_Model_moved_67 : decode b_Model_moved 67 = .ok (.iaload, 1) := by decide +kernel
theorem d_Model_moved_68 : decode b_Model_moved 68 = .ok (.iastore, 1) := by decide +kernel
theorem d_Model_moved_69 : decode b_Model_moved 69 = .ok (.goto 37, 3) := by decide +kernel
theorem d_Model_moved_72 : decode b_Model_moved 72 = .ok (.iload 6, 2) := by decide +kernel
theorem d_Model_moved_74 : decode b_Model_moved 74 = .ok (.ifCond .eq 19, 3) := by decide +kernel
theorem d_Model_moved_77 : decode b_Model_moved 77 = .ok (.aload_n 0, 1) := by decide +kernel
theorem d_Model_moved_78 : decode b_Model_moved 78 = .ok (.getfield 47, 3) := by decide +kernel
theorem d_Model_moved_81 : decode b_Model_moved 81 = .ok (.iload 5, 2) := by decide +kernel
theorem d_Model_moved_83 : decode b_Model_moved 83 = .ok (.aload_n 0, 1) := by decide +kernel
theorem d_Model_moved_84 : decode b_Model_moved 84 = .ok (.getfield 13, 3) := by decide +kernel
theorem d_Model_moved_87 : decode b_Model_moved 87 = .ok (.iload_n 2, 1) := by decide +kernel
theorem d_Model_moved_88 : decode b_Model_moved 88 = .ok (.iaload, 1) := by decide +kernel
theorem d_Model_moved_89 : decode b_Model_moved 89 = .ok (.iastore, 1) := by decide +kernel
theorem d_Model_moved_90 : decode b_Model_moved 90 = .ok (.goto 16, 3) := by decide +kernel
theorem d_Model_moved_93 : decode b_Model_moved 93 = .ok (.aload_n 0, 1) := by decide +kernel
theorem d_Model_moved_94 : decode b_Model_moved 94 = .ok (.getfield 50, 3) := by decide +kernel
theorem d_Model_moved_97 : decode b_Model_moved 97 = .ok (.iload 5, 2) := by decide +kernel
theorem d_Model_moved_99 : decode b_Model_moved 99 = .ok (.aload_n 0, 1) := by decide +kernel
theorem d_Model_moved_100 : decode b_Model_moved 100 = .ok (.getfield 13, 3) := by decide +kernel
theorem d_Model_moved_103 : decode b_Model_moved 103 = .ok (.iload_n 2, 1) := by decide +kernel
theorem d_Model_moved_104 : decode b_Model_moved 104 = .ok (.iaload, 1) := by decide +kernel
theorem d_Model_moved_105 : decode b_Model_moved 105 = .ok (.iastore, 1) := by decide +kernel
theorem d_Model_moved_106 : decode b_Model_moved 106 = .ok (.iconst 4, 1) := by decide +kernel
theorem d_Model_moved_107 : decode b_Model_moved 107 = .ok (.ireturn, 1) := by decide +kernel
theorem d_Model_access_0 : decode b_Model_access 0 = .ok (.aload_n 0, 1) := by decide +kernel
theorem d_Model_access_1 : decode b_Model_access 1 = .ok (.iload_n 1, 1) := by decide +kernel
theorem d_Model_access_2 : decode b_Model_access 2 = .ok (.iload_n 2, 1) := by decide +kernel
theorem d_Model_access_3 : decode b_Model_access 3 = .ok (.invokevirtual 73, 3) := by decide +kernel
theorem d_Model_access_6 : decode b_Model_access 6 = .ok (.istore 4, 2) := by decide +kernel
theorem d_Model_access_8 : decode b_Model_access 8 = .ok (.iload 4, 2) := by decide +kernel
theorem d_Model_access_10 : decode b_Model_access 10 = .ok (.iconst (-1), 1) := by decide +kernel
theorem d_Model_access_11 : decode b_Model_access 11 = .ok (.if_icmp .eq 7, 3) := by decide +kernel
theorem d_Model_access_14 : decode b_Model_access 14 = .ok (.iconst 1, 1) := by decide +kernel
theorem d_Model_access_15 : decode b_Model_access 15 = .ok (.goto 4, 3) := by decide +kernel
theorem d_Model_access_18 : decode b_Model_access 18 = .ok (.iconst 0, 1) := by decide +kernel
theorem d_Model_access_19 : decode b_Model_access 19 = .ok (.istore 5, 2) := by decide +kernel
theorem d_Model_access_21 : decode b_Model_access 21 = .ok (.iload 5, 2) := by decide +kernel
theorem d_Model_access_23 : decode b_Model_access 23 = .ok (.ifCond .ne 11, 3) := by decide +kernel
theorem d_Model_access_26 : decode b_Model_access 26 = .ok (.aload_n 0, 1) := by decide +kernel
theorem d_Model_access_27 : decode b_Model_access 27 = .ok (.iload_n 1, 1) := by decide +kernel
theorem d_Model_access_28 : decode b_Model_access 28 = .ok (.iload_n 2, 1) := by decide +kernel
theorem d_Model_access_29 : decode b_Model_access 29 = .ok (.invokevirtual 85, 3) := by decide +kernel
theorem d_Model_access_32 : decode b_Model_access 32 = .ok (.istore 4, 2) := by decide +kernel
theorem d_Model_access_34 : decode b_Model_access 34 = .ok (.iload 4, 2) := by decide +kernel
theorem d_Model_access_36 : decode b_Model_access 36 = .ok (.iconst (-1), 1) := by decide +kernel
theorem d_Model_access_37 : decode b_Model_access 37 = .ok (.if_icmp .ne 12, 3) := by decide +kernel
theorem d_Model_access_40 : decode b_Model_access 40 = .ok (.aload_n 0, 1) := by decide +kernel
theorem d_Model_access_41 : decode b_Model_access 41 = .ok (.iload_n 1, 1) := by decide +kernel
theorem d_Model_access_42 : decode b_Model_access 42 = .ok (.iconst 2, 1) := by decide +kernel
theorem d_Model_access_43 : decode b_Model_access 43 = .ok (.iconst 2, 1) := by decide +kernel
theorem d_Model_access_44 : decode b_Model_access 44 = .ok (.invokevirtual 77, 3) := by decide +kernel
theorem d_Model_access_47 : decode b_Model_access 47 = .ok (.iconst (-1), 1) := by decide +kernel
theorem d_Model_access_48 : decode b_Model_access 48 = .ok (.ireturn, 1) := by decide +kernel
theorem d_Model_access_49 : decode b_Model_access 49 = .ok (.iload 5, 2) := by decide +kernel
theorem d_Model_access_51 : decode b_Model_access 51 = .ok (.ifCond .eq 18, 3) := by decide +kernel
theorem d_Model_access_54 : decode b_Model_access 54 = .ok (.iload_n 3, 1) := by decide +kernel
theorem d_Model_access_55 : decode b_Model_access 55 = .ok (.ifCond .eq 56, 3) := by decide +kernel
theorem d_Model_access_58 : decode b_Model_access 58 = .ok (.aload_n 0, 1) := by decide +kernel
theorem d_Model_access_59 : decode b_Model_access 59 = .ok (.getfield 38, 3) := by decide +kernel
theorem d_Model_access_62 : decode b_Model_access 62 = .ok (.iload 4, 2) := by decide +kernel
theorem d_Model_access_64 : decode b_Model_access 64 = .ok (.iaload, 1) := by decide +kernel
theorem d_Model_access_65 : decode b_Model_access 65 = .ok (.iconst 2, 1) := by decide +kernel
theorem d_Model_access_66 : decode b_Model_access 66 = .ok (.if_icmp .eq 45, 3) := by decide +kernel
theorem d_Model_access_69 : decode b_Model_access 69 = .ok (.aload_n 0, 1) := by decide +kernel
theorem d_Model_access_70 : decode b_Model_access 70 = .ok (.dup, 1) := by decide +kernel
theorem d_Model_access_71 : decode b_Model_access 71 = .ok (.getfield 88, 3) := by decide +kernel
theorem d_Model_access_74 : decode b_Model_access 74 = .ok (.iconst 1, 1) := by decide +kernel
theorem d_Model_access_75 : decode b_Model_access 75 = .ok (.iadd, 1) := by decide +kernel
theorem d_Model_access_76 : decode b_Model_access 76 = .ok (.putfield 88, 3) := by decide +kernel
theorem d_Model_access_79 : decode b_Model_access 79 = .ok (.iconst 0, 1) := by decide +kernel
theorem d_Model_access_80 : decode b_Model_access 80 = .ok (.istore 6, 2) := by decide +kernel
theorem d_Model_access_82 : decode b_Model_access 82 = .ok (.iload 6, 2) := by decide +kernel
theorem d_Model_access_84 : decode b_Model_access 84 = .ok (.aload_n 0, 1) := by decide +kernel
theorem d_Model_access_85 : decode b_Model_access 85 = .ok (.getfield 56, 3) := by decide +kernel
theorem d_Model_access_88 : decode b_Model_access 88 = .ok (.if_icmp .ge 23, 3) := by decide +kernel
theorem d_Model_access_91 : decode b_Model_access 91 = .ok (.iload 6, 2) := by decide +kernel
theorem d_Model_access_93 : decode b_Model_access 93 = .ok (.iload_n 1, 1) := by decide +kernel
theorem d_Model_access_94 : decode b_Model_access 94 = .ok (.if_icmp .eq 11, 3) := by decide +kernel
theorem d_Model_access_97 : decode b_Model_access 97 = .ok (.aload_n 0, 1) := by decide +kernel
theorem d_Model_access_98 : decode b_Model_access 98 = .ok (.iload 6, 2) := by decide +kernel
theorem d_Model_access_100 : decode b_Model_access 100 = .ok (.iload_n 2, 1) := by decide +kernel
theorem d_Model_access_101 : decode b_Model_access 101 = .ok (.iload_n 3, 1) := by decide +kernel
theorem d_Model_access_102 : decode b_Model_access 102 = .ok (.invokevirtual 91, 3) := by decide +kernel
theorem d_Model_access_105 : decode b_Model_access 105 = .ok (.iinc 6 1, 3) := by decide +kernel
theorem d_Model_access_108 : decode b_Model_access 108 = .ok (.goto (-26), 3) := by decide +kernel
theorem d_Model_access_111 : decode b_Model_access 111 = .ok (.iload 5, 2) := by decide +kernel
theorem d_Model_access_113 : decode b_Model_access 113 = .ok (.ifCond .ne 76, 3) := by decide +kernel
theorem d_Model_access_116 : decode b_Model_access 116 = .ok (.aload_n 0, 1) := by decide +kernel
theorem d_Model_access_117 : decode b_Model_access 117 = .ok (.getfield 38, 3) := by decide +kernel
theorem d_Model_access_120 : decode b_Model_access 120 = .ok (.iload 4, 2) := by decide +kernel
theorem d_Model_access_122 : decode b_Model_access 122 = .ok (.iaload, 1) := by decide +kernel
theorem d_Model_access_123 : decode b_Model_access 123 = .ok (.iconst 2, 1) := by decide +kernel
theorem d_Model_access_124 : decode b_Model_access 124 = .ok (.if_icmp .ne 9, 3) := by decide +kernel
theorem d_Model_access_127 : decode b_Model_access 127 = .ok (.aload_n 0, 1) := by decide +kernel
theorem d_Model_access_128 : decode b_Model_access 128 = .ok (.iload 4, 2) := by decide +kernel
theorem d_Model_access_130 : decode b_Model_access 130 = .ok (.invokevirtual 81, 3) := by decide +kernel
theorem d_Model_access_133 : decode b_Model_access 133 = .ok (.aload_n 0, 1) := by decide +kernel
theorem d_Model_access_134 : decode b_Model_access 134 = .ok (.getfield 38, 3) := by decide +kernel
theorem d_Model_access_137 : decode b_Model_access 137 = .ok (.iload 4, 2) := by decide +kernel
theorem d_Model_access_139 : decode b_Model_access 139 = .ok (.iconst 1, 1) := by decide +kernel
theorem d_Model_access_140 : decode b_Model_access 140 = .ok (.iastore, 1) := by decide +kernel
theorem d_Model_access_141 : decode b_Model_access 141 = .ok (.aload_n 0, 1) := by decide +kernel
theorem d_Model_access_142 : decode b_Model_access 142 = .ok (.getfield 41, 3) := by decide +kernel
theorem d_Model_access_145 : decode b_Model_access 145 = .ok (.iload 4, 2) := by decide +kernel
theorem d_Model_access_147 : decode b_Model_access 147 = .ok (.iload_n 2, 1) := by decide +kernel
theorem d_Model_access_148 : decode b_Model_access 148 = .ok (.iastore, 1) := by decide +kernel
theorem d_Model_access_149 : decode b_Model_access 149 = .ok (.aload_n 0, 1) := by decide +kernel
theorem d_Model_access_150 : decode b_Model_access 150 = .ok (.getfield 44, 3) := by decide +kernel
theorem d_Model_access_153 : decode b_Model_access 153 = .ok (.iload 4, 2) := by decide +kernel
theorem d_Model_access_155 : decode b_Model_access 155 = .ok (.iconst 0, 1) := by decide +kernel
theorem d_Model_access_156 : decode b_Model_access 156 = .ok (.iastore, 1) := by decide +kernel
theorem d_Model_access_157 : decode b_Model_access 157 = .ok (.aload_n 0, 1) := by decide +kernel
theorem d_Model_access_158 : decode b_Model_access 158 = .ok (.getfield 47, 3) := by decide +kernel
theorem d_Model_access_161 : decode b_Model_access 161 = .ok (.iload 4, 2) := by decide +kernel
theorem d_Model_access_163 : decode b_Model_access 163 = .ok (.aload_n 0, 1) := by decide +kernel
theorem d_Model_access_164 : decode b_Model_access 164 = .ok (.getfield 7, 3) := by decide +kernel
theorem d_Model_access_167 : decode b_Model_access 167 = .ok (.iconst 2, 1) := by decide +kernel
theorem d_Model_access_168 : decode b_Model_access 168 = .ok (.iload_n 2, 1) := by decide +kernel
theorem d_Model_access_169 : decode b_Model_access 169 = .ok (.imul, 1) := by decide +kernel
theorem d_Model_access_170 : decode b_Model_access 170 = .ok (.iaload, 1) := by decide +kernel
theorem d_Model_access_171 : decode b_Model_access 171 = .ok (.iastore, 1) := by decide +kernel
theorem d_Model_access_172 : decode b_Model_access 172 = .ok (.aload_n 0, 1) := by decide +kernel
theorem d_Model_access_173 : decode b_Model_access 173 = .ok (.getfield 50, 3) := by decide +kernel
theorem d_Model_access_176 : decode b_Model_access 176 = .ok (.iload 4, 2) := by decide +kernel
theorem d_Model_access_178 : decode b_Model_access 178 = .ok (.aload_n 0, 1) := by decide +kernel
theorem d_Model_access_179 : decode b_Model_access 179 = .ok (.getfield 7, 3) := by decide +kernel
theorem d_Model_access_182 : decode b_Model_access 182 = .ok (.iconst 2, 1) := by decide +kernel
theorem d_Model_access_183 : decode b_Model_access 183 = .ok (.iload_n 2, 1) := by decide +kernel
theorem d_Model_access_184 : decode b_Model_access 184 = .ok (.imul, 1) := by decide +kernel
theorem d_Model_access_185 : decode b_Model_access 185 = .ok (.iconst 1, 1) := by decide +kernel
theorem d_Model_access_186 : decode b_Model_access 186 = .ok (.iadd, 1) := by decide +kernel
theorem d_Model_access_187 : decode b_Model_access 187 = .ok (.iaload, 1) := by decide +kernel
theorem d_Model_access_188 : decode b_Model_access 188 = .ok (.iastore, 1) := by decide +kernel
theorem d_Model_access_189 : decode b_Model_access 189 = .ok (.aload_n 0, 1) := by decide +kernel
theorem d_Model_access_190 : decode b_Model_access 190 = .ok (.getfield 25, 3) := by decide +kernel
theorem d_Model_access_193 : decode b_Model_access 193 = .ok (.iload_n 1, 1) := by decide +kernel
theorem d_Model_access_194 : decode b_Model_access 194 = .ok (.iaload, 1) := by decide +kernel
theorem d_Model_access_195 : decode b_Model_access 195 = .ok (.ifCond .le 7, 3) := by decide +kernel
theorem d_Model_access_198 : decode b_Model_access 198 = .ok (.iconst 1, 1) := by decide +kernel
theorem d_Model_access_199 : decode b_Model_access 199 = .ok (.goto 4, 3) := by decide +kernel
theorem d_Model_access_202 : decode b_Model_access 202 = .ok (.iconst 0, 1) := by decide +kernel
theorem d_Model_access_203 : decode b_Model_access 203 = .ok (.istore 6, 2) := by decide +kernel
theorem d_Model_access_205 : decode b_Model_access 205 = .ok (.iload_n 3, 1) := by decide +kernel
theorem d_Model_access_206 : decode b_Model_access 206 = .ok (.ifCond .eq 45, 3) := by decide +kernel
theorem d_Model_access_209 : decode b_Model_access 209 = .ok (.iload 6, 2) := by decide +kernel
theorem d_Model_access_211 : decode b_Model_access 211 = .ok (.ifCond .eq 32, 3) := by decide +kernel
theorem d_Model_access_214 : decode b_Model_access 214 = .ok (.aload_n 0, 1) := by decide +kernel
theorem d_Model_access_215 : decode b_Model_access 215 = .ok (.getfield 38, 3) := by decide +kernel
theorem d_Model_access_218 : decode b_Model_access 218 = .ok (.iload 4, 2) := by decide +kernel
theorem d_Model_access_220 : decode b_Model_access 220 = .ok (.iaload, 1) := by decide +kernel
theorem d_Model_access_221 : decode b_Model_access 221 = .ok (.iconst 2, 1) := by decide +kernel
theorem d_Model_access_222 : decode b_Model_access 222 = .ok (.if_icmp .ne 21, 3) := by decide +kernel
theorem d_Model_access_225 : decode b_Model_access 225 = .ok (.aload_n 0, 1) := by decide +kernel
theorem d_Model_access_226 : decode b_Model_access 226 = .ok (.getfield 44, 3) := by decide +kernel
theorem d_Model_access_229 : decode b_Model_access 229 = .ok (.iload 4, 2) := by decide +kernel
theorem d_Model_access_231 : decode b_Model_access 231 = .ok (.iaload, 1) := by decide +kernel
theorem d_Model_access_232 : decode b_Model_access 232 = .ok (.iconst 2, 1) := by decide +kernel
theorem d_Model_access_233 : decode b_Model_access 233 = .ok (.iand, 1) := by decide +kernel
theorem d_Model_access_234 : decode b_Model_access 234 = .ok (.ifCond .ne 9, 3) := by decide +kernel
theorem d_Model_access_237 : decode b_Model_access 237 = .ok (.aload_n 0, 1) := by decide +kernel
theorem d_Model_access_238 : decode b_Model_access 238 = .ok (.iload 4, 2) := by decide +kernel
theorem d_Model_access_240 : decode b_Model_access 240 = .ok (.invokevirtual 81, 3) := by decide +kernel
theorem d_Model_access_243 : decode b_Model_access 243 = .ok (.aload_n 0, 1) := by decide +kernel
theorem d_Model_access_244 : decode b_Model_access 244 = .ok (.getfield 38, 3) := by decide +kernel
theorem d_Model_access_247 : decode b_Model_access 247 = .ok (.iload 4, 2) := by decide +kernel
theorem d_Model_access_249 : decode b_Model_access 249 = .ok (.iconst 2, 1) := by decide +kernel
theorem d_Model_access_250 : decode b_Model_access 250 = .ok (.iastore, 1) := by decide +kernel
theorem d_Model_access_251 : decode b_Model_access 251 = .ok (.iload 6, 2) := by decide +kernel
theorem d_Model_access_253 : decode b_Model_access 253 = .ok (.ifCond .eq 22, 3) := by decide +kernel
theorem d_Model_access_256 : decode b_Model_access 256 = .ok (.aload_n 0, 1) := by decide +kernel
theorem d_Model_access_257 : decode b_Model_access 257 = .ok (.getfield 44, 3) := by decide +kernel
theorem d_Model_access_260 : decode b_Model_access 260 = .ok (.iload 4, 2) := by decide +kernel
theorem d_Model_access_262 : decode b_Model_access 262 = .ok (.dup2, 1) := by decide +kernel
theorem d_Model_access_263 : decode b_Model_access 263 = .ok (.iaload, 1) := by decide +kernel
theorem d_Model_access_264 : decode b_Model_access 264 = .ok (.iload_n 3, 1) := by decide +kernel
theorem d_Model_access_265 : decode b_Model_access 265 = .ok (.ifCond .eq 7, 3) := by decide +kernel
theorem d_Model_access_268 : decode b_Model_access 268 = .ok (.iconst 2, 1) := by decide +kernel
theorem d_Model_access_269 : decode b_Model_access 269 = .ok (.goto 4, 3) := by decide +kernel
theorem d_Model_access_272 : decode b_Model_access 272 = .ok (.iconst 1, 1) := by decide +kernel
theorem d_Model_access_273 : decode b_Model_access 273 = .ok (.ior, 1) := by decide +kernel
theorem d_Model_access_274 : decode b_Model_access 274 = .ok (.iastore, 1) := by decide +kernel
theorem d_Model_access_275 : decode b_Model_access 275 = .ok (.aload_n 0, 1) := by decide +kernel
theorem d_Model_access_276 : decode b_Model_access 276 = .ok (.dup, 1) := by decide +kernel
theorem d_Model_access_277 : decode b_Model_access 277 = .ok (.getfield 95, 3) := by decide +kernel
theorem d_Model_access_280 : decode b_Model_access 280 = .ok (.iconst 1, 1) := by decide +kernel
theorem d_Model_access_281 : decode b_Model_access 281 = .ok (.iadd, 1) := by decide +kernel
theorem d_Model_access_282 : decode b_Model_access 282 = .ok (.putfield 95, 3) := by decide +kernel
theorem d_Model_access_285 : decode b_Model_access 285 = .ok (.aload_n 0, 1) := by decide +kernel
theorem d_Model_access_286 : decode b_Model_access 286 = .ok (.getfield 53, 3) := by decide +kernel
theorem d_Model_access_289 : decode b_Model_access 289 = .ok (.iload 4, 2) := by decide +kernel
theorem d_Model_access_291 : decode b_Model_access 291 = .ok (.aload_n 0, 1) := by decide +kernel
theorem d_Model_access_292 : decode b_Model_access 292 = .ok (.getfield 95, 3) := by decide +kernel
theorem d_Model_access_295 : decode b_Model_access 295 = .ok (.iastore, 1) := by decide +kernel
theorem d_Model_access_296 : decode b_Model_access 296 = .ok (.iload 4, 2) := by decide +kernel
theorem d_Model_access_298 : decode b_Model_access 298 = .ok (.ireturn, 1) := by decide +kernel
theorem d_Model_room_0 : decode b_Model_room 0 = .ok (.iconst (-1), 1) := by decide +kernel
theorem d_Model_room_1 : decode b_Model_room 1 = .ok (.istore_n 3, 1) := by decide +kernel
theorem d_Model_room_2 : decode b_Model_room 2 = .ok (.aload_n 0, 1) := by decide +kernel
theorem d_Model_room_3 : decode b_Model_room 3 = .ok (.getfield 63, 3) := by decide +kernel
theorem d_Model_room_6 : decode b_Model_room 6 = .ok (.iconst 1, 1) := by decide +kernel
theorem d_Model_room_7 : decode b_Model_room 7 = .ok (.isub, 1) := by decide +kernel
theorem d_Model_room_8 : decode b_Model_room 8 = .ok (.istore 4, 2) := by decide +kernel
theorem d_Model_room_10 : decode b_Model_room 10 = .ok (.iload 4, 2) := by decide +kernel
theorem d_Model_room_12 : decode b_Model_room 12 = .ok (.ifCond .lt 32, 3) := by decide +kernel
theorem d_Model_room_15 : decode b_Model_room 15 = .ok (.aload_n 0, 1) := by decide +kernel
theorem d_Model_room_16 : decode b_Model_room 16 = .ok (.iload_n 1, 1) := by decide +kernel
theorem d_Model_room_17 : decode b_Model_room 17 = .ok (.iload_n 2, 1) := by decide +kernel
theorem d_Model_room_18 : decode b_Model_room 18 = .ok (.iload 4, 2) := by decide +kernel
theorem d_Model_room_20 : decode b_Model_room 20 = .ok (.invokevirtual 69, 3) := by decide +kernel
theorem d_Model_room_23 : decode b_Model_room 23 = .ok (.istore 5, 2) := by decide +kernel
theorem d_Model_room_25 : decode b_Model_room 25 = .ok (.aload_n 0, 1) := by decide +kernel
theorem d_Model_room_26 : decode b_Model_room 26 = .ok (.getfield 38, 3) := by decide +kernel
theorem d_Model_room_29 : decode b_Model_room 29 = .ok (.iload 5, 2) := by decide +kernel
theorem d_Model_room_31 : decode b_Model_room 31 = .ok (.iaload, 1) := by decide +kernel
theorem d_Model_room_32 : decode b_Model_room 32 = .ok (.ifCond .ne 6, 3) := by decide +kernel
theorem d_Model_room_35 : decode b_Model_room 35 = .ok (.iload 5, 2) := by decide +kernel
theorem d_Model_room_37 : decode b_Model_room 37 = .ok (.istore_n 3, 1) := by decide +kernel
theorem d_Model_room_38 : decode b_Model_room 38 = .ok (.iinc 4 (-1), 3) := by decide +kernel
theorem d_Model_room_41 : decode b_Model_room 41 = .ok (.goto (-31), 3) := by decide +kernel
theorem d_Model_room_44 : decode b_Model_room 44 = .ok (.iload_n 3, 1) := by decide +kernel
theorem d_Model_room_45 : decode b_Model_room 45 = .ok (.iconst (-1), 1) := by decide +kernel
theorem d_Model_room_46 : decode b_Model_room 46 = .ok (.if_icmp .eq 5, 3) := by decide +kernel
theorem d_Model_room_49 : decode b_Model_room 49 = .ok (.iload_n 3, 1) := by decide +kernel
theorem d_Model_room_50 : decode b_Model_room 50 = .ok (.ireturn, 1) := by decide +kernel
theorem d_Model_room_51 : decode b_Model_room 51 = .ok (.iconst 0, 1) := by decide +kernel
theorem d_Model_room_52 : decode b_Model_room 52 = .ok (.istore 4, 2) := by decide +kernel
theorem d_Model_room_54 : decode b_Model_room 54 = .ok (.iload 4, 2) := by decide +kernel
theorem d_Model_room_56 : decode b_Model_room 56 = .ok (.aload_n 0, 1) := by decide +kernel
theorem d_Model_room_57 : decode b_Model_room 57 = .ok (.getfield 63, 3) := by decide +kernel
theorem d_Model_room_60 : decode b_Model_room 60 = .ok (.if_icmp .ge 53, 3) := by decide +kernel
theorem d_Model_room_63 : decode b_Model_room 63 = .ok (.aload_n 0, 1) := by decide +kernel
theorem d_Model_room_64 : decode b_Model_room 64 = .ok (.iload_n 1, 1) := by decide +kernel
theorem d_Model_room_65 : decode b_Model_room 65 = .ok (.iload_n 2, 1) := by decide +kernel
theorem d_Model_room_66 : decode b_Model_room 66 = .ok (.iload 4, 2) := by decide +kernel
theorem d_Model_room_68 : decode b_Model_room 68 = .ok (.invokevirtual 69, 3) := by decide +kernel
theorem d_Model_room_71 : decode b_Model_room 71 = .ok (.istore 5, 2) := by decide +kernel
theorem d_Model_room_73 : decode b_Model_room 73 = .ok (.aload_n 0, 1) := by decide +kernel
theorem d_Model_room_74 : decode b_Model_room 74 = .ok (.getfield 44, 3) := by decide +kernel
theorem d_Model_room_77 : decode b_Model_room 77 = .ok (.iload 5, 2) := by decide +kernel
theorem d_Model_room_79 : decode b_Model_room 79 = .ok (.iaload, 1) := by decide +kernel
theorem d_Model_room_80 : decode b_Model_room 80 = .ok (.ifCond .ne 27, 3) := by decide +kernel
theorem d_Model_room_83 : decode b_Model_room 83 = .ok (.iload_n 3, 1) := by decide +kernel
theorem d_Model_room_84 : decode b_Model_room 84 = .ok (.iconst (-1), 1) := by decide +kernel
theorem d_Model_room_85 : decode b_Model_room 85 = .ok (.if_icmp .eq 19, 3) := by decide +kernel
theorem d_Model_room_88 : decode b_Model_room 88 = .ok (.aload_n 0, 1) := by decide +kernel
theorem d_Model_room_89 : decode b_Model_room 89 = .ok (.getfield 53, 3) := by decide +kernel
theorem d_Model_room_92 : decode b_Model_room 92 = .ok (.iload 5, 2) := by decide +kernel
theorem d_Model_room_94 : decode b_Model_room 94 = .ok (.iaload, 1) := by decide +kernel
theorem d_Model_room_95 : decode b_Model_room 95 = .ok (.aload_n 0, 1) := by decide +kernel
theorem d_Model_room_96 : decode b_Model_room 96 = .ok (.getfield 53, 3) := by decide +kernel
theorem d_Model_room_99 : decode b_Model_room 99 = .ok (.iload_n 3, 1) := by decide +kernel
theorem d_Model_room_100 : decode b_Model_room 100 = .ok (.iaload, 1) := by decide +kernel
theorem d_Model_room_101 : decode b_Model_room 101 = .ok (.if_icmp .ge 6, 3) := by decide +kernel
theorem d_Model_room_104 : decode b_Model_room 104 = .ok (.iload 5, 2) := by decide +kernel
theorem d_Model_room_106 : decode b_Model_room 106 = .ok (.istore_n 3, 1) := by decide +kernel
theorem d_Model_room_107 : decode b_Model_room 107 = .ok (.iinc 4 1, 3) := by decide +kernel
theorem d_Model_room_110 : decode b_Model_room 110 = .ok (.goto (-56), 3) := by decide +kernel
theorem d_Model_room_113 : decode b_Model_room 113 = .ok (.iload_n 3, 1) := by decide +kernel
theorem d_Model_room_114 : decode b_Model_room 114 = .ok (.ireturn, 1) := by decide +kernel
theorem d_Model_ruled_0 : decode b_Model_ruled 0 = .ok (.iload_n 2, 1) := by decide +kernel
theorem d_Model_ruled_1 : decode b_Model_ruled 1 = .ok (.bipush 9, 2) := by decide +kernel
theorem d_Model_ruled_3 : decode b_Model_ruled 3 = .ok (.if_icmp .ne 22, 3) := by decide +kernel
theorem d_Model_ruled_6 : decode b_Model_ruled 6 = .ok (.aload_n 0, 1) := by decide +kernel
theorem d_Model_ruled_7 : decode b_Model_ruled 7 = .ok (.getfield 25, 3) := by decide +kernel
theorem d_Model_ruled_10 : decode b_Model_ruled 10 = .ok (.iload_n 1, 1) := by decide +kernel
theorem d_Model_ruled_11 : decode b_Model_ruled 11 = .ok (.iaload, 1) := by decide +kernel
theorem d_Model_ruled_12 : decode b_Model_ruled 12 = .ok (.iconst 3, 1) := by decide +kernel
theorem d_Model_ruled_13 : decode b_Model_ruled 13 = .ok (.if_icmp .ne 12, 3) := by decide +kernel
theorem d_Model_ruled_16 : decode b_Model_ruled 16 = .ok (.aload_n 0, 1) := by decide +kernel
theorem d_Model_ruled_17 : decode b_Model_ruled 17 = .ok (.iload_n 1, 1) := by decide +kernel
theorem d_Model_ruled_18 : decode b_Model_ruled 18 = .ok (.iconst 3, 1) := by decide +kernel
theorem d_Model_ruled_19 : decode b_Model_ruled 19 = .ok (.iconst 3, 1) := by decide +kernel
theorem d_Model_ruled_20 : decode b_Model_ruled 20 = .ok (.invokevirtual 77, 3) := by decide +kernel
theorem d_Model_ruled_23 : decode b_Model_ruled 23 = .ok (.iconst 2, 1) := by decide +kernel
theorem d_Model_ruled_24 : decode b_Model_ruled 24 = .ok (.ireturn, 1) := by decide +kernel
theorem d_Model_ruled_25 : decode b_Model_ruled 25 = .ok (.iload_n 2, 1) := by decide +kernel
theorem d_Model_ruled_26 : decode b_Model_ruled 26 = .ok (.bipush 9, 2) := by decide +kernel
theorem d_Model_ruled_28 : decode b_Model_ruled 28 = .ok (.if_icmp .ne 88, 3) := by decide +kernel
theorem d_Model_ruled_31 : decode b_Model_ruled 31 = .ok (.bipush 8, 2) := by decide +kernel
theorem d_Model_ruled_33 : decode b_Model_ruled 33 = .ok (.iload_n 1, 1) := by decide +kernel
theorem d_Model_ruled_34 : decode b_Model_ruled 34 = .ok (.imul, 1) := by decide +kernel
theorem d_Model_ruled_35 : decode b_Model_ruled 35 = .ok (.istore 4, 2) := by decide +kernel
theorem d_Model_ruled_37 : decode b_Model_ruled 37 = .ok (.iload 4, 2) := by decide +kernel
theorem d_Model_ruled_39 : decode b_Model_ruled 39 = .ok (.bipush 8, 2) := by decide +kernel
theorem d_Model_ruled_41 : decode b_Model_ruled 41 = .ok (.iload_n 1, 1) := by decide +kernel
theorem d_Model_ruled_42 : decode b_Model_ruled 42 = .ok (.imul, 1) := by decide +kernel
theorem d_Model_ruled_43 : decode b_Model_ruled 43 = .ok (.bipush 8, 2) := by decide +kernel
theorem d_Model_ruled_45 : decode b_Model_ruled 45 = .ok (.iadd, 1) := by decide +kernel
theorem d_Model_ruled_46 : decode b_Model_ruled 46 = .ok (.if_icmp .ge 32, 3) := by decide +kernel
theorem d_Model_ruled_49 : decode b_Model_ruled 49 = .ok (.aload_n 0, 1) := by decide +kernel
theorem d_Model_ruled_50 : decode b_Model_ruled 50 = .ok (.getfield 25, 3) := by decide +kernel
theorem d_Model_ruled_53 : decode b_Model_ruled 53 = .ok (.iload_n 1, 1) := by decide +kernel
theorem d_Model_ruled_54 : decode b_Model_ruled 54 = .ok (.iaload, 1) := by decide +kernel
theorem d_Model_ruled_55 : decode b_Model_ruled 55 = .ok (.ifCond .ne 23, 3) := by decide +kernel
theorem d_Model_ruled_58 : decode b_Model_ruled 58 = .ok (.aload_n 0, 1) := by decide +kernel
theorem d_Model_ruled_59 : decode b_Model_ruled 59 = .ok (.getfield 16, 3) := by decide +kernel
theorem d_Model_ruled_62 : decode b_Model_ruled 62 = .ok (.iload 4, 2) := by decide +kernel
theorem d_Model_ruled_64 : decode b_Model_ruled 64 = .ok (.aload_n 0, 1) := by decide +kernel
theorem d_Model_ruled_65 : decode b_Model_ruled 65 = .ok (.getfield 13, 3) := by decide +kernel
theorem d_Model_ruled_68 : decode b_Model_ruled 68 = .ok (.iload 4, 2) := by decide +kernel
theorem d_Model_ruled_70 : decode b_Model_ruled 70 = .ok (.iaload, 1) := by decide +kernel
theorem d_Model_ruled_71 : decode b_Model_ruled 71 = .ok (.iastore, 1) := by decide +kernel
theorem d_Model_ruled_72 : decode b_Model_ruled 72 = .ok (.iinc 4 1, 3) := by decide +kernel
theorem d_Model_ruled_75 : decode b_Model_ruled 75 = .ok (.goto (-38), 3) := by decide +kernel
theorem d_Model_ruled_78 : decode b_Model_ruled 78 = .ok (.aload_n 0, 1) := by decide +kernel
theorem d_Model_ruled_79 : decode b_Model_ruled 79 = .ok (.getfield 25, 3) := by decide +kernel
theorem d_Model_ruled_82 : decode b_Model_ruled 82 = .ok (.iload_n 1, 1) := by decide +kernel
theorem d_Model_ruled_83 : decode b_Model_ruled 83 = .ok (.iaload, 1) := by decide +kernel
theorem d_Model_ruled_84 : decode b_Model_ruled 84 = .ok (.ifCond .ne 20, 3) := by decide +kernel
theorem d_Model_ruled_87 : decode b_Model_ruled 87 = .ok (.aload_n 0, 1) := by decide +kernel
theorem d_Model_ruled_88 : decode b_Model_ruled 88 = .ok (.getfield 28, 3) := by decide +kernel
theorem d_Model_ruled_91 : decode b_Model_ruled 91 = .ok (.iload_n 1, 1) := by decide +kernel
theorem d_Model_ruled_92 : decode b_Model_ruled 92 = .ok (.aload_n 0, 1) := by decide +kernel
theorem d_Model_ruled_93 : decode b_Model_ruled 93 = .ok (.getfield 22, 3) := by decide +kernel
theorem d_Model_ruled_96 : decode b_Model_ruled 96 = .ok (.iload_n 1, 1) := by decide +kernel
theorem d_Model_ruled_97 : decode b_Model_ruled 97 = .ok (.iaload, 1) := by decide +kernel
theorem d_Model_ruled_98 : decode b_Model_ruled 98 = .ok (.iload_n 3, 1) := by decide +kernel
theorem d_Model_ruled_99 : decode b_Model_ruled 99 = .ok (.iadd, 1) := by decide +kernel
theorem d_Model_ruled_100 : decode b_Model_ruled 100 = .ok (.bipush 15, 2) := by decide +kernel
theorem d_Model_ruled_102 : decode b_Model_ruled 102 = .ok (.iand, 1) := by decide +kernel
theorem d_Model_ruled_103 : decode b_Model_ruled 103 = .ok (.iastore, 1) := by decide +kernel
theorem d_Model_ruled_104 : decode b_Model_ruled 104 = .ok (.aload_n 0, 1) := by decide +kernel
theorem d_Model_ruled_105 : decode b_Model_ruled 105 = .ok (.getfield 25, 3) := by decide +kernel
theorem d_Model_ruled_108 : decode b_Model_ruled 108 = .ok (.iload_n 1, 1) := by decide +kernel
theorem d_Model_ruled_109 : decode b_Model_ruled 109 = .ok (.dup2, 1) := by decide +kernel
theorem d_Model_ruled_110 : decode b_Model_ruled 110 = .ok (.iaload, 1) := by decide +kernel
theorem d_Model_ruled_111 : decode b_Model_ruled 111 = .ok (.iconst 1, 1) := by decide +kernel
theorem d_Model_ruled_112 : decode b_Model_ruled 112 = .ok (.iadd, 1) := by decide +kernel
theorem d_Model_ruled_113 : decode b_Model_ruled 113 = .ok (.iastore, 1) := by decide +kernel
theorem d_Model_ruled_114 : decode b_Model_ruled 114 = .ok (.iconst 4, 1) := by decide +kernel
theorem d_Model_ruled_115 : decode b_Model_ruled 115 = .ok (.ireturn, 1) := by decide +kernel
theorem d_Model_ruled_116 : decode b_Model_ruled 116 = .ok (.iload_n 2, 1) := by decide +kernel
theorem d_Model_ruled_117 : decode b_Model_ruled 117 = .ok (.bipush 10, 2) := by decide +kernel
theorem d_Model_ruled_119 : decode b_Model_ruled 119 = .ok (.if_icmp .ne 18, 3) := by decide +kernel
theorem d_Model_ruled_122 : decode b_Model_ruled 122 = .ok (.aload_n 0, 1) := by decide +kernel
theorem d_Model_ruled_123 : decode b_Model_ruled 123 = .ok (.getfield 25, 3) := by decide +kernel
theorem d_Model_ruled_126 : decode b_Model_ruled 126 = .ok (.iload_n 1, 1) := by decide +kernel
theorem d_Model_ruled_127 : decode b_Model_ruled 127 = .ok (.iaload, 1) := by decide +kernel
theorem d_Model_ruled_128 : decode b_Model_ruled 128 = .ok (.ifCond .ne 9, 3) := by decide +kernel
theorem d_Model_ruled_131 : decode b_Model_ruled 131 = .ok (.aload_n 0, 1) := by decide +kernel
theorem d_Model_ruled_132 : decode b_Model_ruled 132 = .ok (.iload_n 1, 1) := by decide +kernel
theorem d_Model_ruled_133 : decode b_Model_ruled 133 = .ok (.invokevirtual 109, 3) := by decide +kernel
theorem d_Model_ruled_136 : decode b_Model_ruled 136 = .ok (.ireturn, 1) := by decide +kernel
theorem d_Model_ruled_137 : decode b_Model_ruled 137 = .ok (.iload_n 2, 1) := by decide +kernel
theorem d_Model_ruled_138 : decode b_Model_ruled 138 = .ok (.bipush 10, 2) := by decide +kernel
theorem d_Model_ruled_140 : decode b_Model_ruled 140 = .ok (.if_icmp .ne 71, 3) := by decide +kernel
theorem d_Model_ruled_143 : decode b_Model_ruled 143 = .ok (.aload_n 0, 1) := by decide +kernel
theorem d_Model_ruled_144 : decode b_Model_ruled 144 = .ok (.getfield 25, 3) := by decide +kernel
theorem d_Model_ruled_147 : decode b_Model_ruled 147 = .ok (.iload_n 1, 1) := by decide +kernel
theorem d_Model_ruled_148 : decode b_Model_ruled 148 = .ok (.dup2, 1) := by decide +kernel
theorem d_Model_ruled_149 : decode b_Model_ruled 149 = .ok (.iaload, 1) := by decide +kernel
theorem d_Model_ruled_150 : decode b_Model_ruled 150 = .ok (.iconst 1, 1) := by decide +kernel
theorem d_Model_ruled_151 : decode b_Model_ruled 151 = .ok (.isub, 1) := by decide +kernel
theorem d_Model_ruled_152 : decode b_Model_ruled 152 = .ok (.iastore, 1) := by decide +kernel
theorem d_Model_ruled_153 : decode b_Model_ruled 153 = .ok (.aload_n 0, 1) := by decide +kernel
theorem d_Model_ruled_154 : decode b_Model_ruled 154 = .ok (.getfield 25, 3) := by decide +kernel
theorem d_Model_ruled_157 : decode b_Model_ruled 157 = .ok (.iload_n 1, 1) := by decide +kernel
theorem d_Model_ruled_158 : decode b_Model_ruled 158 = .ok (.iaload, 1) := by decide +kernel
theorem d_Model_ruled_159 : decode b_Model_ruled 159 = .ok (.ifCond .le 5, 3) := by decide +kernel
theorem d_Model_ruled_162 : decode b_Model_ruled 162 = .ok (.iconst 4, 1) := by decide +kernel
theorem d_Model_ruled_163 : decode b_Model_ruled 163 = .ok (.ireturn, 1) := by decide +kernel
theorem d_Model_ruled_164 : decode b_Model_ruled 164 = .ok (.bipush 12, 2) := by decide +kernel
theorem d_Model_ruled_166 : decode b_Model_ruled 166 = .ok (.iload_n 1, 1) := by decide +kernel
theorem d_Model_ruled_167 : decode b_Model_ruled 167 = .ok (.imul, 1) := by decide +kernel
theorem d_Model_ruled_168 : decode b_Model_ruled 168 = .ok (.istore 4, 2) := by decide +kernel
theorem d_Model_ruled_170 : decode b_Model_ruled 170 = .ok (.iload 4, 2) := by decide +kernel
theorem d_Model_ruled_172 : decode b_Model_ruled 172 = .ok (.bipush 12, 2) := by decide +kernel
theorem d_Model_ruled_174 : decode b_Model_ruled 174 = .ok (.iload_n 1, 1) := by decide +kernel
theorem d_Model_ruled_175 : decode b_Model_ruled 175 = .ok (.imul, 1) := by decide +kernel
theorem d_Model_ruled_176 : decode b_Model_ruled 176 = .ok (.bipush 12, 2) := by decide +kernel
theorem d_Model_ruled_178 : decode b_Model_ruled 178 = .ok (.iadd, 1) := by decide +kernel
theorem d_Model_ruled_179 : decode b_Model_ruled 179 = .ok (.if_icmp .ge 17, 3) := by decide +kernel
theorem d_Model_ruled_182 : decode b_Model_ruled 182 = .ok (.aload_n 0, 1) := by decide +kernel
theorem d_Model_ruled_183 : decode b_Model_ruled 183 = .ok (.getfield 44, 3) := by decide +kernel
theorem d_Model_ruled_186 : decode b_Model_ruled 186 = .ok (.iload 4, 2) := by decide +kernel
theorem d_Model_ruled_188 : decode b_Model_ruled 188 = .ok (.iconst 0, 1) := by decide +kernel
theorem d_Model_ruled_189 : decode b_Model_ruled 189 = .ok (.iastore, 1) := by decide +kernel
theorem d_Model_ruled_190 : decode b_Model_ruled 190 = .ok (.iinc 4 1, 3) := by decide +kernel
theorem d_Model_ruled_193 : decode b_Model_ruled 193 = .ok (.goto (-23), 3) := by decide +kernel
theorem d_Model_ruled_196 : decode b_Model_ruled 196 = .ok (.aload_n 0, 1) := by decide +kernel
theorem d_Model_ruled_197 : decode b_Model_ruled 197 = .ok (.getfield 35, 3) := by decide +kernel
theorem d_Model_ruled_200 : decode b_Model_ruled 200 = .ok (.bipush 6, 2) := by decide +kernel
theorem d_Model_ruled_202 : decode b_Model_ruled 202 = .ok (.iload_n 1, 1) := by decide +kernel
theorem d_Model_ruled_203 : decode b_Model_ruled 203 = .ok (.imul, 1) := by decide +kernel
theorem d_Model_ruled_204 : decode b_Model_ruled 204 = .ok (.dup2, 1) := by decide +kernel
theorem d_Model_ruled_205 : decode b_Model_ruled 205 = .ok (.iaload, 1) := by decide +kernel
theorem d_Model_ruled_206 : decode b_Model_ruled 206 = .ok (.iconst 1, 1) := by decide +kernel
theorem d_Model_ruled_207 : decode b_Model_ruled 207 = .ok (.iadd, 1) := by decide +kernel
theorem d_Model_ruled_208 : decode b_Model_ruled 208 = .ok (.iastore, 1) := by decide +kernel
theorem d_Model_ruled_209 : decode b_Model_ruled 209 = .ok (.iconst 3, 1) := by decide +kernel
theorem d_Model_ruled_210 : decode b_Model_ruled 210 = .ok (.ireturn, 1) := by decide +kernel
theorem d_Model_ruled_211 : decode b_Model_ruled 211 = .ok (.aload_n 0, 1) := by decide +kernel
theorem d_Model_ruled_212 : decode b_Model_ruled 212 = .ok (.getfield 25, 3) := by decide +kernel
theorem d_Model_ruled_215 : decode b_Model_ruled 215 = .ok (.iload_n 1, 1) := by decide +kernel
theorem d_Model_ruled_216 : decode b_Model_ruled 216 = .ok (.iaload, 1) := by decide +kernel
theorem d_Model_ruled_217 : decode b_Model_ruled 217 = .ok (.ifCond .ne 5, 3) := by decide +kernel
theorem d_Model_ruled_220 : decode b_Model_ruled 220 = .ok (.iconst 4, 1) := by decide +kernel
theorem d_Model_ruled_221 : decode b_Model_ruled 221 = .ok (.ireturn, 1) := by decide +kernel
theorem d_Model_ruled_222 : decode b_Model_ruled 222 = .ok (.aload_n 0, 1) := by decide +kernel
theorem d_Model_ruled_223 : decode b_Model_ruled 223 = .ok (.iload_n 1, 1) := by decide +kernel
theorem d_Model_ruled_224 : decode b_Model_ruled 224 = .ok (.iconst 4, 1) := by decide +kernel
theorem d_Model_ruled_225 : decode b_Model_ruled 225 = .ok (.iconst 4, 1) := by decide +kernel
theorem d_Model_ruled_226 : decode b_Model_ruled 226 = .ok (.bipush 8, 2) := by decide +kernel
theorem d_Model_ruled_228 : decode b_Model_ruled 228 = .ok (.iload_n 3, 1) := by decide +kernel
theorem d_Model_ruled_229 : decode b_Model_ruled 229 = .ok (.sipush 255, 3) := by decide +kernel
theorem d_Model_ruled_232 : decode b_Model_ruled 232 = .ok (.iand, 1) := by decide +kernel
theorem d_Model_ruled_233 : decode b_Model_ruled 233 = .ok (.imul, 1) := by decide +kernel
theorem d_Model_ruled_234 : decode b_Model_ruled 234 = .ok (.iadd, 1) := by decide +kernel
theorem d_Model_ruled_235 : decode b_Model_ruled 235 = .ok (.invokevirtual 77, 3) := by decide +kernel
theorem d_Model_ruled_238 : decode b_Model_ruled 238 = .ok (.iconst 2, 1) := by decide +kernel
theorem d_Model_ruled_239 : decode b_Model_ruled 239 = .ok (.ireturn, 1) := by decide +kernel
theorem d_Model_fault_0 : decode b_Model_fault 0 = .ok (.aload_n 0, 1) := by decide +kernel
theorem d_Model_fault_1 : decode b_Model_fault 1 = .ok (.getfield 25, 3) := by decide +kernel
theorem d_Model_fault_4 : decode b_Model_fault 4 = .ok (.iload_n 1, 1) := by decide +kernel
theorem d_Model_fault_5 : decode b_Model_fault 5 = .ok (.iaload, 1) := by decide +kernel
theorem d_Model_fault_6 : decode b_Model_fault 6 = .ok (.ifCond .le 12, 3) := by decide +kernel
theorem d_Model_fault_9 : decode b_Model_fault 9 = .ok (.aload_n 0, 1) := by decide +kernel
theorem d_Model_fault_10 : decode b_Model_fault 10 = .ok (.iload_n 1, 1) := by decide +kernel
theorem d_Model_fault_11 : decode b_Model_fault 11 = .ok (.iconst 5, 1) := by decide +kernel
theorem d_Model_fault_12 : decode b_Model_fault 12 = .ok (.iconst 5, 1) := by decide +kernel
theorem d_Model_fault_13 : decode b_Model_fault 13 = .ok (.invokevirtual 77, 3) := by decide +kernel
theorem d_Model_fault_16 : decode b_Model_fault 16 = .ok (.iconst 2, 1) := by decide +kernel
theorem d_Model_fault_17 : decode b_Model_fault 17 = .ok (.ireturn, 1) := by decide +kernel
theorem d_Model_fault_18 : decode b_Model_fault 18 = .ok (.aload_n 0, 1) := by decide +kernel
theorem d_Model_fault_19 : decode b_Model_fault 19 = .ok (.getfield 31, 3) := by decide +kernel
theorem d_Model_fault_22 : decode b_Model_fault 22 = .ok (.iload_n 1, 1) := by decide +kernel
theorem d_Model_fault_23 : decode b_Model_fault 23 = .ok (.iconst 1, 1) := by decide +kernel
theorem d_Model_fault_24 : decode b_Model_fault 24 = .ok (.bastore, 1) := by decide +kernel
theorem d_Model_fault_25 : decode b_Model_fault 25 = .ok (.aload_n 0, 1) := by decide +kernel
theorem d_Model_fault_26 : decode b_Model_fault 26 = .ok (.getfield 22, 3) := by decide +kernel
theorem d_Model_fault_29 : decode b_Model_fault 29 = .ok (.iload_n 1, 1) := by decide +kernel
theorem d_Model_fault_30 : decode b_Model_fault 30 = .ok (.aload_n 0, 1) := by decide +kernel
theorem d_Model_fault_31 : decode b_Model_fault 31 = .ok (.getfield 22, 3) := by decide +kernel
theorem d_Model_fault_34 : decode b_Model_fault 34 = .ok (.iload_n 1, 1) := by decide +kernel
theorem d_Model_fault_35 : decode b_Model_fault 35 = .ok (.iaload, 1) := by decide +kernel
theorem d_Model_fault_36 : decode b_Model_fault 36 = .ok (.bipush 15, 2) := by decide +kernel
theorem d_Model_fault_38 : decode b_Model_fault 38 = .ok (.iadd, 1) := by decide +kernel
theorem d_Model_fault_39 : decode b_Model_fault 39 = .ok (.bipush 15, 2) := by decide +kernel
theorem d_Model_fault_41 : decode b_Model_fault 41 = .ok (.iand, 1) := by decide +kernel
theorem d_Model_fault_42 : decode b_Model_fault 42 = .ok (.iastore, 1) := by decide +kernel
theorem d_Model_fault_43 : decode b_Model_fault 43 = .ok (.iconst 0, 1) := by decide +kernel
theorem d_Model_fault_44 : decode b_Model_fault 44 = .ok (.ireturn, 1) := by decide +kernel
theorem d_Model_run_0 : decode b_Model_run 0 = .ok (.aload_n 0, 1) := by decide +kernel
theorem d_Model_run_1 : decode b_Model_run 1 = .ok (.iload_n 2, 1) := by decide +kernel
theorem d_Model_run_2 : decode b_Model_run 2 = .ok (.ifCond .lt 9, 3) := by decide +kernel
theorem d_Model_run_5 : decode b_Model_run 5 = .ok (.iload_n 2, 1) := by decide +kernel
theorem d_Model_run_6 : decode b_Model_run 6 = .ok (.bipush 16, 2) := by decide +kernel
theorem d_Model_run_8 : decode b_Model_run 8 = .ok (.if_icmp .le 7, 3) := by decide +kernel
theorem d_Model_run_11 : decode b_Model_run 11 = .ok (.iconst 1, 1) := by decide +kernel
theorem d_Model_run_12 : decode b_Model_run 12 = .ok (.goto 4, 3) := by decide +kernel
theorem d_Model_run_15 : decode b_Model_run 15 = .ok (.iconst 0, 1) := by decide +kernel
theorem d_Model_run_16 : decode b_Model_run 16 = .ok (.putfield 66, 3) := by decide +kernel
theorem d_Model_run_19 : decode b_Model_run 19 = .ok (.iconst 0, 1) := by decide +kernel
theorem d_Model_run_20 : decode b_Model_run 20 = .ok (.istore_n 3, 1) := by decide +kernel
theorem d_Model_run_21 : decode b_Model_run 21 = .ok (.iconst 0, 1) := by decide +kernel
theorem d_Model_run_22 : decode b_Model_run 22 = .ok (.istore 4, 2) := by decide +kernel
theorem d_Model_run_24 : decode b_Model_run 24 = .ok (.iload 4, 2) := by decide +kernel
theorem d_Model_run_26 : decode b_Model_run 26 = .ok (.iload_n 2, 1) := by decide +kernel
theorem d_Model_run_27 : decode b_Model_run 27 = .ok (.if_icmp .ge 45, 3) := by decide +kernel
theorem d_Model_run_30 : decode b_Model_run 30 = .ok (.aload_n 0, 1) := by decide +kernel
theorem d_Model_run_31 : decode b_Model_run 31 = .ok (.getfield 66, 3) := by decide +kernel
theorem d_Model_run_34 : decode b_Model_run 34 = .ok (.ifCond .ne 38, 3) := by decide +kernel
theorem d_Model_run_37 : decode b_Model_run 37 = .ok (.iload_n 3, 1) := by decide +kernel
theorem d_Model_run_38 : decode b_Model_run 38 = .ok (.aload_n 0, 1) := by decide +kernel
theorem d_Model_run_39 : decode b_Model_run 39 = .ok (.iload_n 1, 1) := by decide +kernel
theorem d_Model_run_40 : decode b_Model_run 40 = .ok (.iconst 2, 1) := by decide +kernel
theorem d_Model_run_41 : decode b_Model_run 41 = .ok (.iload 4, 2) := by decide +kernel
theorem d_Model_run_43 : decode b_Model_run 43 = .ok (.imul, 1) := by decide +kernel
theorem d_Model_run_44 : decode b_Model_run 44 = .ok (.ishr, 1) := by decide +kernel
theorem d_Model_run_45 : decode b_Model_run 45 = .ok (.iconst 3, 1) := by decide +kernel
theorem d_Model_run_46 : decode b_Model_run 46 = .ok (.iand, 1) := by decide +kernel
theorem d_Model_run_47 : decode b_Model_run 47 = .ok (.aload_n 0, 1) := by decide +kernel
theorem d_Model_run_48 : decode b_Model_run 48 = .ok (.getfield 56, 3) := by decide +kernel
theorem d_Model_run_51 : decode b_Model_run 51 = .ok (.irem, 1) := by decide +kernel
theorem d_Model_run_52 : decode b_Model_run 52 = .ok (.invokevirtual 117, 3) := by decide +kernel
theorem d_Model_run_55 : decode b_Model_run 55 = .ok (.iconst 3, 1) := by decide +kernel
theorem d_Model_run_56 : decode b_Model_run 56 = .ok (.if_icmp .ne 7, 3) := by decide +kernel
theorem d_Model_run_59 : decode b_Model_run 59 = .ok (.iconst 1, 1) := by decide +kernel
theorem d_Model_run_60 : decode b_Model_run 60 = .ok (.goto 4, 3) := by decide +kernel
theorem d_Model_run_63 : decode b_Model_run 63 = .ok (.iconst 0, 1) := by decide +kernel
theorem d_Model_run_64 : decode b_Model_run 64 = .ok (.iadd, 1) := by decide +kernel
theorem d_Model_run_65 : decode b_Model_run 65 = .ok (.istore_n 3, 1) := by decide +kernel
theorem d_Model_run_66 : decode b_Model_run 66 = .ok (.iinc 4 1, 3) := by decide +kernel
theorem d_Model_run_69 : decode b_Model_run 69 = .ok (.goto (-45), 3) := by decide +kernel
theorem d_Model_run_72 : decode b_Model_run 72 = .ok (.iload_n 3, 1) := by decide +kernel
theorem d_Model_run_73 : decode b_Model_run 73 = .ok (.ireturn, 1) := by decide +kernel
theorem d_Model_jump_0 : decode b_Model_jump 0 = .ok (.aload_n 0, 1) := by decide +kernel
theorem d_Model_jump_1 : decode b_Model_jump 1 = .ok (.aload_n 0, 1) := by decide +kernel
theorem d_Model_jump_2 : decode b_Model_jump 2 = .ok (.iload_n 1, 1) := by decide +kernel
theorem d_Model_jump_3 : decode b_Model_jump 3 = .ok (.invokevirtual 98, 3) := by decide +kernel
theorem d_Model_jump_6 : decode b_Model_jump 6 = .ok (.ifCond .ne 7, 3) := by decide +kernel
theorem d_Model_jump_9 : decode b_Model_jump 9 = .ok (.iconst 1, 1) := by decide +kernel
theorem d_Model_jump_10 : decode b_Model_jump 10 = .ok (.goto 17, 3) := by decide +kernel
theorem d_Model_jump_13 : decode b_Model_jump 13 = .ok (.aload_n 0, 1) := by decide +kernel
theorem d_Model_jump_14 : decode b_Model_jump 14 = .ok (.getfield 25, 3) := by decide +kernel
theorem d_Model_jump_17 : decode b_Model_jump 17 = .ok (.iload_n 1, 1) := by decide +kernel
theorem d_Model_jump_18 : decode b_Model_jump 18 = .ok (.iaload, 1) := by decide +kernel
theorem d_Model_jump_19 : decode b_Model_jump 19 = .ok (.ifCond .le 7, 3) := by decide +kernel
theorem d_Model_jump_22 : decode b_Model_jump 22 = .ok (.iconst 2, 1) := by decide +kernel
theorem d_Model_jump_23 : decode b_Model_jump 23 = .ok (.goto 4, 3) := by decide +kernel
theorem d_Model_jump_26 : decode b_Model_jump 26 = .ok (.iconst 0, 1) := by decide +kernel
theorem d_Model_jump_27 : decode b_Model_jump 27 = .ok (.putfield 66, 3) := by decide +kernel
theorem d_Model_jump_30 : decode b_Model_jump 30 = .ok (.aload_n 0, 1) := by decide +kernel
theorem d_Model_jump_31 : decode b_Model_jump 31 = .ok (.getfield 66, 3) := by decide +kernel
theorem d_Model_jump_34 : decode b_Model_jump 34 = .ok (.ifCond .le 4, 3) := by decide +kernel
theorem d_Model_jump_37 : decode b_Model_jump 37 = .ok (.return_, 1) := by decide +kernel
theorem d_Model_jump_38 : decode b_Model_jump 38 = .ok (.aload_n 0, 1) := by decide +kernel
theorem d_Model_jump_39 : decode b_Model_jump 39 = .ok (.getfield 22, 3) := by decide +kernel
theorem d_Model_jump_42 : decode b_Model_jump 42 = .ok (.iload_n 1, 1) := by decide +kernel
theorem d_Model_jump_43 : decode b_Model_jump 43 = .ok (.iload_n 2, 1) := by decide +kernel
theorem d_Model_jump_44 : decode b_Model_jump 44 = .ok (.bipush 15, 2) := by decide +kernel
theorem d_Model_jump_46 : decode b_Model_jump 46 = .ok (.iand, 1) := by decide +kernel
theorem d_Model_jump_47 : decode b_Model_jump 47 = .ok (.iastore, 1) := by decide +kernel
theorem d_Model_jump_48 : decode b_Model_jump 48 = .ok (.aload_n 0, 1) := by decide +kernel
theorem d_Model_jump_49 : decode b_Model_jump 49 = .ok (.getfield 31, 3) := by decide +kernel
theorem d_Model_jump_52 : decode b_Model_jump 52 = .ok (.iload_n 1, 1) := by decide +kernel
theorem d_Model_jump_53 : decode b_Model_jump 53 = .ok (.iconst 0, 1) := by decide +kernel
theorem d_Model_jump_54 : decode b_Model_jump 54 = .ok (.bastore, 1) := by decide +kernel
theorem d_Model_jump_55 : decode b_Model_jump 55 = .ok (.return_, 1) := by decide +kernel
theorem d_Model_register_0 : decode b_Model_register 0 = .ok (.aload_n 0, 1) := by decide +kernel
theorem d_Model_register_1 : decode b_Model_register 1 = .ok (.iconst 0, 1) := by decide +kernel
theorem d_Model_register_2 : decode b_Model_register 2 = .ok (.putfield 66, 3) := by decide +kernel
theorem d_Model_register_5 : decode b_Model_register 5 = .ok (.aload_n 0, 1) := by decide +kernel
theorem d_Model_register_6 : decode b_Model_register 6 = .ok (.iload_n 1, 1) := by decide +kernel
theorem d_Model_register_7 : decode b_Model_register 7 = .ok (.invokevirtual 98, 3) := by decide +kernel
theorem d_Model_register_10 : decode b_Model_register 10 = .ok (.ifCond .eq 13, 3) := by decide +kernel
theorem d_Model_register_13 : decode b_Model_register 13 = .ok (.iload_n 2, 1) := by decide +kernel
theorem d_Model_register_14 : decode b_Model_register 14 = .ok (.ifCond .lt 9, 3) := by decide +kernel
theorem d_Model_register_17 : decode b_Model_register 17 = .ok (.iload_n 2, 1) := by decide +kernel
theorem d_Model_register_18 : decode b_Model_register 18 = .ok (.bipush 10, 2) := by decide +kernel
theorem d_Model_register_20 : decode b_Model_register 20 = .ok (.if_icmp .le 9, 3) := by decide +kernel
theorem d_Model_register_23 : decode b_Model_register 23 = .ok (.aload_n 0, 1) := by decide +kernel
theorem d_Model_register_24 : decode b_Model_register 24 = .ok (.iconst 1, 1) := by decide +kernel
theorem d_Model_register_25 : decode b_Model_register 25 = .ok (.invokevirtual 120, 3) := by decide +kernel
theorem d_Model_register_28 : decode b_Model_register 28 = .ok (.ireturn, 1) := by decide +kernel
theorem d_Model_register_29 : decode b_Model_register 29 = .ok (.iload_n 2, 1) := by decide +kernel
theorem d_Model_register_30 : decode b_Model_register 30 = .ok (.bipush 8, 2) := by decide +kernel
theorem d_Model_register_32 : decode b_Model_register 32 = .ok (.if_icmp .ge 15, 3) := by decide +kernel
theorem d_Model_register_35 : decode b_Model_register 35 = .ok (.aload_n 0, 1) := by decide +kernel
theorem d_Model_register_36 : decode b_Model_register 36 = .ok (.getfield 13, 3) := by decide +kernel
theorem d_Model_register_39 : decode b_Model_register 39 = .ok (.bipush 8, 2) := by decide +kernel
theorem d_Model_register_41 : decode b_Model_register 41 = .ok (.iload_n 1, 1) := by decide +kernel
theorem d_Model_register_42 : decode b_Model_register 42 = .ok (.imul, 1) := by decide +kernel
theorem d_Model_register_43 : decode b_Model_register 43 = .ok (.iload_n 2, 1) := by decide +kernel
theorem d_Model_register_44 : decode b_Model_register 44 = .ok (.iadd, 1) := by decide +kernel
theorem d_Model_register_45 : decode b_Model_register 45 = .ok (.iaload, 1) := by decide +kernel
theorem d_Model_register_46 : decode b_Model_register 46 = .ok (.ireturn, 1) := by decide +kernel
theorem d_Model_register_47 : decode b_Model_register 47 = .ok (.iload_n 2, 1) := by decide +kernel
theorem d_Model_register_48 : decode b_Model_register 48 = .ok (.bipush 8, 2) := by decide +kernel
theorem d_Model_register_50 : decode b_Model_register 50 = .ok (.if_icmp .ne 12, 3) := by decide +kernel
theorem d_Model_register_53 : decode b_Model_register 53 = .ok (.aload_n 0, 1) := by decide +kernel
theorem d_Model_register_54 : decode b_Model_register 54 = .ok (.getfield 22, 3) := by decide +kernel
theorem d_Model_register_57 : decode b_Model_register 57 = .ok (.iload_n 1, 1) := by decide +kernel
theorem d_Model_register_58 : decode b_Model_register 58 = .ok (.iaload, 1) := by decide +kernel
theorem d_Model_register_59 : decode b_Model_register 59 = .ok (.goto 32, 3) := by decide +kernel
theorem d_Model_register_62 : decode b_Model_register 62 = .ok (.iload_n 2, 1) := by decide +kernel
theorem d_Model_register_63 : decode b_Model_register 63 = .ok (.bipush 9, 2) := by decide +kernel
theorem d_Model_register_65 : decode b_Model_register 65 = .ok (.if_icmp .ne 12, 3) := by decide +kernel
theorem d_Model_register_68 : decode b_Model_register 68 = .ok (.aload_n 0, 1) := by decide +kernel
theorem d_Model_register_69 : decode b_Model_register 69 = .ok (.getfield 25, 3) := by decide +kernel
theorem d_Model_register_72 : decode b_Model_register 72 = .ok (.iload_n 1, 1) := by decide +kernel
theorem d_Model_register_73 : decode b_Model_register 73 = .ok (.iaload, 1) := by decide +kernel
theorem d_Model_register_74 : decode b_Model_register 74 = .ok (.goto 17, 3) := by decide +kernel
theorem d_Model_register_77 : decode b_Model_register 77 = .ok (.aload_n 0, 1) := by decide +kernel
theorem d_Model_register_78 : decode b_Model_register 78 = .ok (.getfield 31, 3) := by decide +kernel
theorem d_Model_register_81 : decode b_Model_register 81 = .ok (.iload_n 1, 1) := by decide +kernel
theorem d_Model_register_82 : decode b_Model_register 82 = .ok (.baload, 1) := by decide +kernel
theorem d_Model_register_83 : decode b_Model_register 83 = .ok (.ifCond .eq 7, 3) := by decide +kernel
theorem d_Model_register_86 : decode b_Model_register 86 = .ok (.iconst 1, 1) := by decide +kernel
theorem d_Model_register_87 : decode b_Model_register 87 = .ok (.goto 4, 3) := by decide +kernel
theorem d_Model_register_90 : decode b_Model_register 90 = .ok (.iconst 0, 1) := by decide +kernel
theorem d_Model_register_91 : decode b_Model_register 91 = .ok (.ireturn, 1) := by decide +kernel
theorem d_Model_fail_0 : decode b_Model_fail 0 = .ok (.aload_n 0, 1) := by decide +kernel
theorem d_Model_fail_1 : decode b_Model_fail 1 = .ok (.iload_n 1, 1) := by decide +kernel
theorem d_Model_fail_2 : decode b_Model_fail 2 = .ok (.putfield 66, 3) := by decide +kernel
theorem d_Model_fail_5 : decode b_Model_fail 5 = .ok (.iconst 0, 1) := by decide +kernel
theorem d_Model_fail_6 : decode b_Model_fail 6 = .ok (.ireturn, 1) := by decide +kernel
theorem d_Model_fate_0 : decode b_Model_fate 0 = .ok (.aload_n 0, 1) := by decide +kernel
theorem d_Model_fate_1 : decode b_Model_fate 1 = .ok (.iconst 0, 1) := by decide +kernel
theorem d_Model_fate_2 : decode b_Model_fate 2 = .ok (.putfield 66, 3) := by decide +kernel
theorem d_Model_fate_5 : decode b_Model_fate 5 = .ok (.aload_n 0, 1) := by decide +kernel
theorem d_Model_fate_6 : decode b_Model_fate 6 = .ok (.iload_n 1, 1) := by decide +kernel
theorem d_Model_fate_7 : decode b_Model_fate 7 = .ok (.invokevirtual 98, 3) := by decide +kernel
theorem d_Model_fate_10 : decode b_Model_fate 10 = .ok (.ifCond .eq 26, 3) := by decide +kernel
theorem d_Model_fate_13 : decode b_Model_fate 13 = .ok (.iload_n 2, 1) := by decide +kernel
theorem d_Model_fate_14 : decode b_Model_fate 14 = .ok (.ifCond .lt 22, 3) := by decide +kernel
theorem d_Model_fate_17 : decode b_Model_fate 17 = .ok (.iload_n 2, 1) := by decide +kernel
theorem d_Model_fate_18 : decode b_Model_fate 18 = .ok (.iconst 5, 1) := by decide +kernel
theorem d_Model_fate_19 : decode b_Model_fate 19 = .ok (.if_icmp .gt 17, 3) := by decide +kernel
theorem d_Model_fate_22 : decode b_Model_fate 22 = .ok (.aload_n 0, 1) := by decide +kernel
theorem d_Model_fate_23 : decode b_Model_fate 23 = .ok (.getfield 35, 3) := by decide +kernel
theorem d_Model_fate_26 : decode b_Model_fate 26 = .ok (.bipush 6, 2) := by decide +kernel
theorem d_Model_fate_28 : decode b_Model_fate 28 = .ok (.iload_n 1, 1) := by decide +kernel
theorem d_Model_fate_29 : decode b_Model_fate 29 = .ok (.imul, 1) := by decide +kernel
theorem d_Model_fate_30 : decode b_Model_fate 30 = .ok (.iload_n 2, 1) := by decide +kernel
theorem d_Model_fate_31 : decode b_Model_fate 31 = .ok (.iadd, 1) := by decide +kernel
theorem d_Model_fate_32 : decode b_Model_fate 32 = .ok (.iaload, 1) := by decide +kernel
theorem d_Model_fate_33 : decode b_Model_fate 33 = .ok (.goto 8, 3) := by decide +kernel
theorem d_Model_fate_36 : decode b_Model_fate 36 = .ok (.aload_n 0, 1) := by decide +kernel
theorem d_Model_fate_37 : decode b_Model_fate 37 = .ok (.iconst 1, 1) := by decide +kernel
theorem d_Model_fate_38 : decode b_Model_fate 38 = .ok (.invokevirtual 120, 3) := by decide +kernel
theorem d_Model_fate_41 : decode b_Model_fate 41 = .ok (.ireturn, 1) := by decide +kernel
theorem d_Model_way_0 : decode b_Model_way 0 = .ok (.aload_n 0, 1) := by decide +kernel
theorem d_Model_way_1 : decode b_Model_way 1 = .ok (.iconst 0, 1) := by decide +kernel
theorem d_Model_way_2 : decode b_Model_way 2 = .ok (.putfield 66, 3) := by decide +kernel
theorem d_Model_way_5 : decode b_Model_way 5 = .ok (.aload_n 0, 1) := by decide +kernel
theorem d_Model_way_6 : decode b_Model_way 6 = .ok (.iload_n 1, 1) := by decide +kernel
theorem d_Model_way_7 : decode b_Model_way 7 = .ok (.invokevirtual 98, 3) := by decide +kernel
theorem d_Model_way_10 : decode b_Model_way 10 = .ok (.ifCond .eq 38, 3) := by decide +kernel
theorem d_Model_way_13 : decode b_Model_way 13 = .ok (.iload_n 2, 1) := by decide +kernel
theorem d_Model_way_14 : decode b_Model_way 14 = .ok (.ifCond .lt 34, 3) := by decide +kernel
theorem d_Model_way_17 : decode b_Model_way 17 = .ok (.iload_n 2, 1) := by decide +kernel
theorem d_Model_way_18 : decode b_Model_way 18 = .ok (.aload_n 0, 1) := by decide +kernel
theorem d_Model_way_19 : decode b_Model_way 19 = .ok (.getfield 60, 3) := by decide +kernel
theorem d_Model_way_22 : decode b_Model_way 22 = .ok (.if_icmp .ge 26, 3) := by decide +kernel
theorem d_Model_way_25 : decode b_Model_way 25 = .ok (.iload_n 3, 1) := by decide +kernel
theorem d_Model_way_26 : decode b_Model_way 26 = .ok (.ifCond .lt 22, 3) := by decide +kernel
theorem d_Model_way_29 : decode b_Model_way 29 = .ok (.iload_n 3, 1) := by decide +kernel
theorem d_Model_way_30 : decode b_Model_way 30 = .ok (.aload_n 0, 1) := by decide +kernel
theorem d_Model_way_31 : decode b_Model_way 31 = .ok (.getfield 63, 3) := by decide +kernel
theorem d_Model_way_34 : decode b_Model_way 34 = .ok (.if_icmp .ge 14, 3) := by decide +kernel
theorem d_Model_way_37 : decode b_Model_way 37 = .ok (.iload 4, 2) := by decide +kernel
theorem d_Model_way_39 : decode b_Model_way 39 = .ok (.ifCond .lt 9, 3) := by decide +kernel
theorem d_Model_way_42 : decode b_Model_way 42 = .ok (.iload 4, 2) := by decide +kernel
theorem d_Model_way_44 : decode b_Model_way 44 = .ok (.iconst 4, 1) := by decide +kernel
theorem d_Model_way_45 : decode b_Model_way 45 = .ok (.if_icmp .le 9, 3) := by decide +kernel
theorem d_Model_way_48 : decode b_Model_way 48 = .ok (.aload_n 0, 1) := by decide +kernel
theorem d_Model_way_49 : decode b_Model_way 49 = .ok (.iconst 1, 1) := by decide +kernel
theorem d_Model_way_50 : decode b_Model_way 50 = .ok (.invokevirtual 120, 3) := by decide +kernel
theorem d_Model_way_53 : decode b_Model_way 53 = .ok (.ireturn, 1) := by decide +kernel
theorem d_Model_way_54 : decode b_Model_way 54 = .ok (.bipush 12, 2) := by decide +kernel
theorem d_Model_way_56 : decode b_Model_way 56 = .ok (.iload_n 1, 1) := by decide +kernel
theorem d_Model_way_57 : decode b_Model_way 57 = .ok (.imul, 1) := by decide +kernel
theorem d_Model_way_58 : decode b_Model_way 58 = .ok (.iconst 3, 1) := by decide +kernel
theorem d_Model_way_59 : decode b_Model_way 59 = .ok (.iload_n 2, 1) := by decide +kernel
theorem d_Model_way_60 : decode b_Model_way 60 = .ok (.imul, 1) := by decide +kernel
theorem d_Model_way_61 : decode b_Model_way 61 = .ok (.iadd, 1) := by decide +kernel
theorem d_Model_way_62 : decode b_Model_way 62 = .ok (.iload_n 3, 1) := by decide +kernel
theorem d_Model_way_63 : decode b_Model_way 63 = .ok (.iadd, 1) := by decide +kernel
theorem d_Model_way_64 : decode b_Model_way 64 = .ok (.istore 5, 2) := by decide +kernel
theorem d_Model_way_66 : decode b_Model_way 66 = .ok (.iload 4, 2) := by decide +kernel
theorem d_Model_way_68 : decode b_Model_way 68 = .ok (.ifCond .ne 11, 3) := by decide +kernel
theorem d_Model_way_71 : decode b_Model_way 71 = .ok (.aload_n 0, 1) := by decide +kernel
theorem d_Model_way_72 : decode b_Model_way 72 = .ok (.getfield 38, 3) := by decide +kernel
theorem d_Model_way_75 : decode b_Model_way 75 = .ok (.iload 5, 2) := by decide +kernel
theorem d_Model_way_77 : decode b_Model_way 77 = .ok (.iaload, 1) := by decide +kernel
theorem d_Model_way_78 : decode b_Model_way 78 = .ok (.ireturn, 1) := by decide +kernel
theorem d_Model_way_79 : decode b_Model_way 79 = .ok (.aload_n 0, 1) := by decide +kernel
theorem d_Model_way_80 : decode b_Model_way 80 = .ok (.getfield 38, 3) := by decide +kernel
theorem d_Model_way_83 : decode b_Model_way 83 = .ok (.iload 5, 2) := by decide +kernel
theorem d_Model_way_85 : decode b_Model_way 85 = .ok (.iaload, 1) := by decide +kernel
theorem d_Model_way_86 : decode b_Model_way 86 = .ok (.ifCond .ne 5, 3) := by decide +kernel
theorem d_Model_way_89 : decode b_Model_way 89 = .ok (.iconst (-1), 1) := by decide +kernel
theorem d_Model_way_90 : decode b_Model_way 90 = .ok (.ireturn, 1) := by decide +kernel
theorem d_Model_way_91 : decode b_Model_way 91 = .ok (.iload 4, 2) := by decide +kernel
theorem d_Model_way_93 : decode b_Model_way 93 = .ok (.iconst 1, 1) := by decide +kernel
theorem d_Model_way_94 : decode b_Model_way 94 = .ok (.if_icmp .ne 13, 3) := by decide +kernel
theorem d_Model_way_97 : decode b_Model_way 97 = .ok (.aload_n 0, 1) := by decide +kernel
theorem d_Model_way_98 : decode b_Model_way 98 = .ok (.getfield 41, 3) := by decide +kernel
theorem d_Model_way_101 : decode b_Model_way 101 = .ok (.iload 5, 2) := by decide +kernel
theorem d_Model_way_103 : decode b_Model_way 103 = .ok (.iaload, 1) := by decide +kernel
theorem d_Model_way_104 : decode b_Model_way 104 = .ok (.goto 42, 3) := by decide +kernel
theorem d_Model_way_107 : decode b_Model_way 107 = .ok (.iload 4, 2) := by decide +kernel
theorem d_Model_way_109 : decode b_Model_way 109 = .ok (.iconst 2, 1) := by decide +kernel
theorem d_Model_way_110 : decode b_Model_way 110 = .ok (.if_icmp .ne 13, 3) := by decide +kernel
theorem d_Model_way_113 : decode b_Model_way 113 = .ok (.aload_n 0, 1) := by decide +kernel
theorem d_Model_way_114 : decode b_Model_way 114 = .ok (.getfield 44, 3) := by decide +kernel
theorem d_Model_way_117 : decode b_Model_way 117 = .ok (.iload 5, 2) := by decide +kernel
theorem d_Model_way_119 : decode b_Model_way 119 = .ok (.iaload, 1) := by decide +kernel
theorem d_Model_way_120 : decode b_Model_way 120 = .ok (.goto 26, 3) := by decide +kernel
theorem d_Model_way_123 : decode b_Model_way 123 = .ok (.iload 4, 2) := by decide +kernel
theorem d_Model_way_125 : decode b_Model_way 125 = .ok (.iconst 3, 1) := by decide +kernel
theorem d_Model_way_126 : decode b_Model_way 126 = .ok (.if_icmp .ne 13, 3) := by decide +kernel
theorem d_Model_way_129 : decode b_Model_way 129 = .ok (.aload_n 0, 1) := by decide +kernel
theorem d_Model_way_130 : decode b_Model_way 130 = .ok (.getfield 47, 3) := by decide +kernel
theorem d_Model_way_133 : decode b_Model_way 133 = .ok (.iload 5, 2) := by decide +kernel
theorem d_Model_way_135 : decode b_Model_way 135 = .ok (.iaload, 1) := by decide +kernel
theorem d_Model_way_136 : decode b_Model_way 136 = .ok (.goto 10, 3) := by decide +kernel
theorem d_Model_way_139 : decode b_Model_way 139 = .ok (.aload_n 0, 1) := by decide +kernel
theorem d_Model_way_140 : decode b_Model_way 140 = .ok (.getfield 50, 3) := by decide +kernel
theorem d_Model_way_143 : decode b_Model_way 143 = .ok (.iload 5, 2) := by decide +kernel
theorem d_Model_way_145 : decode b_Model_way 145 = .ok (.iaload, 1) := by decide +kernel
theorem d_Model_way_146 : decode b_Model_way 146 = .ok (.ireturn, 1) := by decide +kernel
theorem d_Model_memory_0 : decode b_Model_memory 0 = .ok (.aload_n 0, 1) := by decide +kernel
theorem d_Model_memory_1 : decode b_Model_memory 1 = .ok (.iconst 0, 1) := by decide +kernel
theorem d_Model_memory_2 : decode b_Model_memory 2 = .ok (.putfield 66, 3) := by decide +kernel
theorem d_Model_memory_5 : decode b_Model_memory 5 = .ok (.aload_n 0, 1) := by decide +kernel
theorem d_Model_memory_6 : decode b_Model_memory 6 = .ok (.getfield 7, 3) := by decide +kernel
theorem d_Model_memory_9 : decode b_Model_memory 9 = .ok (.iload_n 1, 1) := by decide +kernel
theorem d_Model_memory_10 : decode b_Model_memory 10 = .ok (.bipush 63, 2) := by decide +kernel
theorem d_Model_memory_12 : decode b_Model_memory 12 = .ok (.iand, 1) := by decide +kernel
theorem d_Model_memory_13 : decode b_Model_memory 13 = .ok (.iaload, 1) := by decide +kernel
theorem d_Model_memory_14 : decode b_Model_memory 14 = .ok (.ireturn, 1) := by decide +kernel
theorem d_Model_requests_0 : decode b_Model_requests 0 = .ok (.aload_n 0, 1) := by decide +kernel
theorem d_Model_requests_1 : decode b_Model_requests 1 = .ok (.iconst 0, 1) := by decide +kernel
theorem d_Model_requests_2 : decode b_Model_requests 2 = .ok (.putfield 66, 3) := by decide +kernel
theorem d_Model_requests_5 : decode b_Model_requests 5 = .ok (.aload_n 0, 1) := by decide +kernel
theorem d_Model_requests_6 : decode b_Model_requests 6 = .ok (.getfield 88, 3) := by decide +kernel
theorem d_Model_requests_9 : decode b_Model_requests 9 = .ok (.ireturn, 1) := by decide +kernel
end
section
theorem d_Law_cell_0 : decode b_Law_cell 0 = .ok (.iload_n 1, 1) := by decide +kernel
theorem d_Law_cell_1 : decode b_Law_cell 1 = .ok (.aload_n 0, 1) := by decide +kernel
theorem d_Law_cell_2 : decode b_Law_cell 2 = .ok (.arraylength, 1) := by decide +kernel
theorem d_Law_cell_3 : decode b_Law_cell 3 = .ok (.if_icmp .ge 9, 3) := by decide +kernel
theorem d_Law_cell_6 : decode b_Law_cell 6 = .ok (.aload_n 0, 1) := by decide +kernel
theorem d_Law_cell_7 : decode b_Law_cell 7 = .ok (.iload_n 1, 1) := by decide +kernel
theorem d_Law_cell_8 : decode b_Law_cell 8 = .ok (.iaload, 1) := by decide +kernel
theorem d_Law_cell_9 : decode b_Law_cell 9 = .ok (.goto 4, 3) := by decide +kernel
theorem d_Law_cell_12 : decode b_Law_cell 12 = .ok (.iconst 0, 1) := by decide +kernel
theorem d_Law_cell_13 : decode b_Law_cell 13 = .ok (.ireturn, 1) := by decide +kernel
theorem d_Law_code_0 : decode b_Law_code 0 = .ok (.aload_n 0, 1) := by decide +kernel
theorem d_Law_code_1 : decode b_Law_code 1 = .ok (.iload_n 1, 1) := by decide +kernel
theorem d_Law_code_2 : decode b_Law_code 2 = .ok (.iload_n 2, 1) := by decide +kernel
theorem d_Law_code_3 : decode b_Law_code 3 = .ok (.iload_n 3, 1) := by decide +kernel
theorem d_Law_code_4 : decode b_Law_code 4 = .ok (.invokevirtual 7, 3) := by decide +kernel
theorem d_Law_code_7 : decode b_Law_code 7 = .ok (.goto 7, 3) := by decide +kernel
theorem d_Law_code_10 : decode b_Law_code 10 = .ok (.astore 4, 2) := by decide +kernel
theorem d_Law_code_12 : decode b_Law_code 12 = .ok (.iconst 1, 1) := by decide +kernel
theorem d_Law_code_13 : decode b_Law_code 13 = .ok (.ireturn, 1) := by decide +kernel
theorem d_Law_code_14 : decode b_Law_code 14 = .ok (.iconst 0, 1) := by decide +kernel
theorem d_Law_code_15 : decode b_Law_code 15 = .ok (.ireturn, 1) := by decide +kernel
theorem d_Law_step_0 : decode b_Law_step 0 = .ok (.aload_n 2, 1) := by decide +kernel
theorem d_Law_step_1 : decode b_Law_step 1 = .ok (.iconst 0, 1) := by decide +kernel
theorem d_Law_step_2 : decode b_Law_step 2 = .ok (.aload_n 0, 1) := by decide +kernel
theorem d_Law_step_3 : decode b_Law_step 3 = .ok (.iload_n 1, 1) := by decide +kernel
theorem d_Law_step_4 : decode b_Law_step 4 = .ok (.invokevirtual 15, 3) := by decide +kernel
theorem d_Law_step_7 : decode b_Law_step 7 = .ok (.i2l, 1) := by decide +kernel
theorem d_Law_step_8 : decode b_Law_step 8 = .ok (.lastore, 1) := by decide +kernel
theorem d_Law_step_9 : decode b_Law_step 9 = .ok (.goto 6, 3) := by decide +kernel
theorem d_Law_step_12 : decode b_Law_step 12 = .ok (.astore_n 3, 1) := by decide +kernel
theorem d_Law_step_13 : decode b_Law_step 13 = .ok (.iconst 1, 1) := by decide +kernel
theorem d_Law_step_14 : decode b_Law_step 14 = .ok (.ireturn, 1) := by decide +kernel
theorem d_Law_step_15 : decode b_Law_step 15 = .ok (.iconst 0, 1) := by decide +kernel
theorem d_Law_step_16 : decode b_Law_step 16 = .ok (.ireturn, 1) := by decide +kernel
theorem d_Law_run_0 : decode b_Law_run 0 = .ok (.aload_n 3, 1) := by decide +kernel
theorem d_Law_run_1 : decode b_Law_run 1 = .ok (.iconst 0, 1) := by decide +kernel
theorem d_Law_run_2 : decode b_Law_run 2 = .ok (.aload_n 0, 1) := by decide +kernel
theorem d_Law_run_3 : decode b_Law_run 3 = .ok (.iload_n 1, 1) := by decide +kernel
theorem d_Law_run_4 : decode b_Law_run 4 = .ok (.iload_n 2, 1) := by decide +kernel
theorem d_Law_run_5 : decode b_Law_run 5 = .ok (.invokevirtual 19, 3) := by decide +kernel
theorem d_Law_run_8 : decode b_Law_run 8 = .ok (.i2l, 1) := by decide +kernel
theorem d_Law_run_9 : decode b_Law_run 9 = .ok (.lastore, 1) := by decide +kernel
theorem d_Law_run_10 : decode b_Law_run 10 = .ok (.goto 7, 3) := by decide +kernel
theorem d_Law_run_13 : decode b_Law_run 13 = .ok (.astore 4, 2) := by decide +kernel
theorem d_Law_run_15 : decode b_Law_run 15 = .ok (.iconst 1, 1) := by decide +kernel
theorem d_Law_run_16 : decode b_Law_run 16 = .ok (.ireturn, 1) := by decide +kernel
theorem d_Law_run_17 : decode b_Law_run 17 = .ok (.iconst 0, 1) := by decide +kernel
theorem d_Law_run_18 : decode b_Law_run 18 = .ok (.ireturn, 1) := by decide +kernel
theorem d_Law_jump_0 : decode b_Law_jump 0 = .ok (.aload_n 0, 1) := by decide +kernel
theorem d_Law_jump_1 : decode b_Law_jump 1 = .ok (.iload_n 1, 1) := by decide +kernel
theorem d_Law_jump_2 : decode b_Law_jump 2 = .ok (.iload_n 2, 1) := by decide +kernel
theorem d_Law_jump_3 : decode b_Law_jump 3 = .ok (.invokevirtual 25, 3) := by decide +kernel
theorem d_Law_jump_6 : decode b_Law_jump 6 = .ok (.goto 9, 3) := by decide +kernel
theorem d_Law_jump_9 : decode b_Law_jump 9 = .ok (.astore_n 3, 1) := by decide +kernel
theorem d_Law_jump_10 : decode b_Law_jump 10 = .ok (.iconst 1, 1) := by decide +kernel
theorem d_Law_jump_11 : decode b_Law_jump 11 = .ok (.ireturn, 1) := by decide +kernel
theorem d_Law_jump_12 : decode b_Law_jump 12 = .ok (.astore_n 3, 1) := by decide +kernel
theorem d_Law_jump_13 : decode b_Law_jump 13 = .ok (.iconst 2, 1) := by decide +kernel
theorem d_Law_jump_14 : decode b_Law_jump 14 = .ok (.ireturn, 1) := by decide +kernel
theorem d_Law_jump_15 : decode b_Law_jump 15 = .ok (.iconst 0, 1) := by decide +kernel
theorem d_Law_jump_16 : decode b_Law_jump 16 = .ok (.ireturn, 1) := by decide +kernel
theorem d_Law_register_0 : decode b_Law_register 0 = .ok (.aload_n 3, 1) := by decide +kernel
theorem d_Law_register_1 : decode b_Law_register 1 = .ok (.iconst 0, 1) := by decide +kernel
theorem d_Law_register_2 : decode b_Law_register 2 = .ok (.aload_n 0, 1) := by decide +kernel
theorem d_Law_register_3 : decode b_Law_register 3 = .ok (.iload_n 1, 1) := by decide +kernel
theorem d_Law_register_4 : decode b_Law_register 4 = .ok (.iload_n 2, 1) := by decide +kernel
theorem d_Law_register_5 : decode b_Law_register 5 = .ok (.invokevirtual 31, 3) := by decide +kernel
theorem d_Law_register_8 : decode b_Law_register 8 = .ok (.i2l, 1) := by decide +kernel
theorem d_Law_register_9 : decode b_Law_register 9 = .ok (.lastore, 1) := by decide +kernel
theorem d_Law_register_10 : decode b_Law_register 10 = .ok (.goto 7, 3) := by decide +kernel
theorem d_Law_register_13 : decode b_Law_register 13 = .ok (.astore 4, 2) := by decide +kernel
theorem d_Law_register_15 : decode b_Law_register 15 = .ok (.iconst 1, 1) := by decide +kernel
theorem d_Law_register_16 : decode b_Law_register 16 = .ok (.ireturn, 1) := by decide +kernel
theorem d_Law_register_17 : decode b_Law_register 17 = .ok (.iconst 0, 1) := by decide +kernel
theorem d_Law_register_18 : decode b_Law_register 18 = .ok (.ireturn, 1) := by decide +kernel
theorem d_Law_fate_0 : decode b_Law_fate 0 = .ok (.aload_n 3, 1) := by decide +kernel
theorem d_Law_fate_1 : decode b_Law_fate 1 = .ok (.iconst 0, 1) := by decide +kernel
theorem d_Law_fate_2 : decode b_Law_fate 2 = .ok (.aload_n 0, 1) := by decide +kernel
theorem d_Law_fate_3 : decode b_Law_fate 3 = .ok (.iload_n 1, 1) := by decide +kernel
theorem d_Law_fate_4 : decode b_Law_fate 4 = .ok (.iload_n 2, 1) := by decide +kernel
theorem d_Law_fate_5 : decode b_Law_fate 5 = .ok (.invokevirtual 34, 3) := by decide +kernel
theorem d_Law_fate_8 : decode b_Law_fate 8 = .ok (.i2l, 1) := by decide +kernel
theorem d_Law_fate_9 : decode b_Law_fate 9 = .ok (.lastore, 1) := by decide +kernel
theorem d_Law_fate_10 : decode b_Law_fate 10 = .ok (.goto 7, 3) := by decide +kernel
theorem d_Law_fate_13 : decode b_Law_fate 13 = .ok (.astore 4, 2) := by decide +kernel
theorem d_Law_fate_15 : decode b_Law_fate 15 = .ok (.iconst 1, 1) := by decide +kernel
theorem d_Law_fate_16 : decode b_Law_fate 16 = .ok (.ireturn, 1) := by decide +kernel
theorem d_Law_fate_17 : decode b_Law_fate 17 = .ok (.iconst 0, 1) := by decide +kernel
theorem d_Law_fate_18 : decode b_Law_fate 18 = .ok (.ireturn, 1) := by decide +kernel
theorem d_Law_way_0 : decode b_Law_way 0 = .ok (.aload 5, 2) := by decide +kernel
theorem d_Law_way_2 : decode b_Law_way 2 = .ok (.iconst 0, 1) := by decide +kernel
theorem d_Law_way_3 : decode b_Law_way 3 = .ok (.aload_n 0, 1) := by decide +kernel
theorem d_Law_way_4 : decode b_Law_way 4 = .ok (.iload_n 1, 1) := by decide +kernel
theorem d_Law_way_5 : decode b_Law_way 5 = .ok (.iload_n 2, 1) := by decide +kernel
theorem d_Law_way_6 : decode b_Law_way 6 = .ok (.iload_n 3, 1) := by decide +kernel
theorem d_Law_way_7 : decode b_Law_way 7 = .ok (.iload 4, 2) := by decide +kernel
theorem d_Law_way_9 : decode b_Law_way 9 = .ok (.invokevirtual 37, 3) := by decide +kernel
theorem d_Law_way_12 : decode b_Law_way 12 = .ok (.i2l, 1) := by decide +kernel
theorem d_Law_way_13 : decode b_Law_way 13 = .ok (.lastore, 1) := by decide +kernel
theorem d_Law_way_14 : decode b_Law_way 14 = .ok (.goto 7, 3) := by decide +kernel
theorem d_Law_way_17 : decode b_Law_way 17 = .ok (.astore 6, 2) := by decide +kernel
theorem d_Law_way_19 : decode b_Law_way 19 = .ok (.iconst 1, 1) := by decide +kernel
theorem d_Law_way_20 : decode b_Law_way 20 = .ok (.ireturn, 1) := by decide +kernel
theorem d_Law_way_21 : decode b_Law_way 21 = .ok (.iconst 0, 1) := by decide +kernel
theorem d_Law_way_22 : decode b_Law_way 22 = .ok (.ireturn, 1) := by decide +kernel
theorem d_Law_law_0 : decode b_Law_law 0 = .ok (.new 8, 3) := by decide +kernel
theorem d_Law_law_3 : decode b_Law_law 3 = .ok (.dup, 1) := by decide +kernel
theorem d_Law_law_4 : decode b_Law_law 4 = .ok (.aload_n 0, 1) := by decide +kernel
theorem d_Law_law_5 : decode b_Law_law 5 = .ok (.iconst 0, 1) := by decide +kernel
theorem d_Law_law_6 : decode b_Law_law 6 = .ok (.invokestatic 41, 3) := by decide +kernel
theorem d_Law_law_9 : decode b_Law_law 9 = .ok (.aload_n 0, 1) := by decide +kernel
theorem d_Law_law_10 : decode b_Law_law 10 = .ok (.iconst 1, 1) := by decide +kernel
theorem d_Law_law_11 : decode b_Law_law 11 = .ok (.invokestatic 41, 3) := by decide +kernel
theorem d_Law_law_14 : decode b_Law_law 14 = .ok (.aload_n 0, 1) := by decide +kernel
theorem d_Law_law_15 : decode b_Law_law 15 = .ok (.iconst 2, 1) := by decide +kernel
theorem d_Law_law_16 : decode b_Law_law 16 = .ok (.invokestatic 41, 3) := by decide +kernel
theorem d_Law_law_19 : decode b_Law_law 19 = .ok (.invokespecial 47, 3) := by decide +kernel
theorem d_Law_law_22 : decode b_Law_law 22 = .ok (.astore_n 1, 1) := by decide +kernel
theorem d_Law_law_23 : decode b_Law_law 23 = .ok (.new 49, 3) := by decide +kernel
theorem d_Law_law_26 : decode b_Law_law 26 = .ok (.dup, 1) := by decide +kernel
theorem d_Law_law_27 : decode b_Law_law 27 = .ok (.aload_n 0, 1) := by decide +kernel
theorem d_Law_law_28 : decode b_Law_law 28 = .ok (.iconst 0, 1) := by decide +kernel
theorem d_Law_law_29 : decode b_Law_law 29 = .ok (.invokestatic 41, 3) := by decide +kernel
theorem d_Law_law_32 : decode b_Law_law 32 = .ok (.aload_n 0, 1) := by decide +kernel
theorem d_Law_law_33 : decode b_Law_law 33 = .ok (.iconst 1, 1) := by decide +kernel
theorem d_Law_law_34 : decode b_Law_law 34 = .ok (.invokestatic 41, 3) := by decide +kernel
theorem d_Law_law_37 : decode b_Law_law 37 = .ok (.aload_n 0, 1) := by decide +kernel
theorem d_Law_law_38 : decode b_Law_law 38 = .ok (.iconst 2, 1) := by decide +kernel
theorem d_Law_law_39 : decode b_Law_law 39 = .ok (.invokestatic 41, 3) := by decide +kernel
theorem d_Law_law_42 : decode b_Law_law 42 = .ok (.invokespecial 51, 3) := by decide +kernel
theorem d_Law_law_45 : decode b_Law_law 45 = .ok (.astore_n 2, 1) := by decide +kernel
theorem d_Law_law_46 : decode b_Law_law 46 = .ok (.iconst 1, 1) := by decide +kernel
theorem d_Law_law_47 : decode b_Law_law 47 = .ok (.newarray .long, 2) := by decide +kernel
theorem d_Law_law_49 : decode b_Law_law 49 = .ok (.astore_n 3, 1) := by decide +kernel
theorem d_Law_law_50 : decode b_Law_law 50 = .ok (.iconst 3, 1) := by decide +kernel
theorem d_Law_law_51 : decode b_Law_law 51 = .ok (.istore 4, 2) := by decide +kernel
theorem d_Law_law_53 : decode b_Law_law 53 = .ok (.iload 4, 2) := by decide +kernel
theorem d_Law_law_55 : decode b_Law_law 55 = .ok (.aload_n 0, 1) := by decide +kernel
theorem d_Law_law_56 : decode b_Law_law 56 = .ok (.arraylength, 1) := by decide +kernel
theorem d_Law_law_57 : decode b_Law_law 57 = .ok (.iconst 5, 1) := by decide +kernel
theorem d_Law_law_58 : decode b_Law_law 58 = .ok (.isub, 1) := by decide +kernel
theorem d_Law_law_59 : decode b_Law_law 59 = .ok (.if_icmp .gt 633, 3) := by decide +kernel
theorem d_Law_law_62 : decode b_Law_law 62 = .ok (.aload_n 0, 1) := by decide +kernel
theorem d_Law_law_63 : decode b_Law_law 63 = .ok (.iload 4, 2) := by decide +kernel
theorem d_Law_law_65 : decode b_Law_law 65 = .ok (.iaload, 1) := by decide +kernel
theorem d_Law_law_66 : decode b_Law_law 66 = .ok (.bipush 15, 2) := by decide +kernel
theorem d_Law_law_68 : decode b_Law_law 68 = .ok (.iand, 1) := by decide +kernel
theorem d_Law_law_69 : decode b_Law_law 69 = .ok (.tableswitch 617 0 10 #[59, 119, 154, 179, 235, 303, 351, 419, 487, 579, 604], 59) := by decide +kernel
theorem d_Law_law_128 : decode b_Law_law 128 = .ok (.aload_n 1, 1) := by decide +kernel
theorem d_Law_law_129 : decode b_Law_law 129 = .ok (.aload_n 0, 1) := by decide +kernel
theorem d_Law_law_130 : decode b_Law_law 130 = .ok (.iload 4, 2) := by decide +kernel
theorem d_Law_law_132 : decode b_Law_law 132 = .ok (.iconst 1, 1) := by decide +kernel
theorem d_Law_law_133 : decode b_Law_law 133 = .ok (.iadd, 1) := by decide +kernel
theorem d_Law_law_134 : decode b_Law_law 134 = .ok (.iaload, 1) := by decide +kernel
theorem d_Law_law_135 : decode b_Law_law 135 = .ok (.aload_n 0, 1) := by decide +kernel
theorem d_Law_law_136 : decode b_Law_law 136 = .ok (.iload 4, 2) := by decide +kernel
theorem d_Law_law_138 : decode b_Law_law 138 = .ok (.iconst 2, 1) := by decide +kernel
theorem d_Law_law_139 : decode b_Law_law 139 = .ok (.iadd, 1) := by decide +kernel
theorem d_Law_law_140 : decode b_Law_law 140 = .ok (.iaload, 1) := by decide +kernel
theorem d_Law_law_141 : decode b_Law_law 141 = .ok (.aload_n 0, 1) := by decide +kernel
theorem d_Law_law_142 : decode b_Law_law 142 = .ok (.iload 4, 2) := by decide +kernel
theorem d_Law_law_144 : decode b_Law_law 144 = .ok (.iconst 3, 1) := by decide +kernel
theorem d_Law_law_145 : decode b_Law_law 145 = .ok (.iadd, 1) := by decide +kernel
theorem d_Law_law_146 : decode b_Law_law 146 = .ok (.iaload, 1) := by decide +kernel
theorem d_Law_law_147 : decode b_Law_law 147 = .ok (.invokestatic 52, 3) := by decide +kernel
theorem d_Law_law_150 : decode b_Law_law 150 = .ok (.istore 5, 2) := by decide +kernel
theorem d_Law_law_152 : decode b_Law_law 152 = .ok (.aload_n 2, 1) := by decide +kernel
theorem d_Law_law_153 : decode b_Law_law 153 = .ok (.aload_n 0, 1) := by decide +kernel
theorem d_Law_law_154 : decode b_Law_law 154 = .ok (.iload 4, 2) := by decide +kernel
theorem d_Law_law_156 : decode b_Law_law 156 = .ok (.iconst 1, 1) := by decide +kernel
theorem d_Law_law_157 : decode b_Law_law 157 = .ok (.iadd, 1) := by decide +kernel
theorem d_Law_law_158 : decode b_Law_law 158 = .ok (.iaload, 1) := by decide +kernel
theorem d_Law_law_159 : decode b_Law_law 159 = .ok (.aload_n 0, 1) := by decide +kernel
theorem d_Law_law_160 : decode b_Law_law 160 = .ok (.iload 4, 2) := by decide +kernel
theorem d_Law_law_162 : decode b_Law_law 162 = .ok (.iconst 2, 1) := by decide +kernel
theorem d_Law_law_163 : decode b_Law_law 163 = .ok (.iadd, 1) := by decide +kernel
theorem d_Law_law_164 : decode b_Law_law 164 = .ok (.iaload, 1) := by decide +kernel
theorem d_Law_law_165 : decode b_Law_law 165 = .ok (.aload_n 0, 1) := by decide +kernel
theorem d_Law_law_166 : decode b_Law_law 166 = .ok (.iload 4, 2) := by decide +kernel
theorem d_Law_law_168 : decode b_Law_law 168 = .ok (.iconst 3, 1) := by decide +kernel
theorem d_Law_law_169 : decode b_Law_law 169 = .ok (.iadd, 1) := by decide +kernel
theorem d_Law_law_170 : decode b_Law_law 170 = .ok (.iaload, 1) := by decide +kernel
theorem d_Law_law_171 : decode b_Law_law 171 = .ok (.invokevirtual 55, 3) := by decide +kernel
theorem d_Law_law_174 : decode b_Law_law 174 = .ok (.aload_n 2, 1) := by decide +kernel
theorem d_Law_law_175 : decode b_Law_law 175 = .ok (.invokevirtual 56, 3) := by decide +kernel
theorem d_Law_law_178 : decode b_Law_law 178 = .ok (.iload 5, 2) := by decide +kernel
theorem d_Law_law_180 : decode b_Law_law 180 = .ok (.if_icmp .eq 5, 3) := by decide +kernel
theorem d_Law_law_183 : decode b_Law_law 183 = .ok (.iconst 0, 1) := by decide +kernel
theorem d_Law_law_184 : decode b_Law_law 184 = .ok (.ireturn, 1) := by decide +kernel
theorem d_Law_law_185 : decode b_Law_law 185 = .ok (.goto 501, 3) := by decide +kernel
theorem d_Law_law_188 : decode b_Law_law 188 = .ok (.aload_n 1, 1) := by decide +kernel
theorem d_Law_law_189 : decode b_Law_law 189 = .ok (.aload_n 0, 1) := by decide +kernel
theorem d_Law_law_190 : decode b_Law_law 190 = .ok (.iload 4, 2) := by decide +kernel
theorem d_Law_law_192 : decode b_Law_law 192 = .ok (.iconst 1, 1) := by decide +kernel
theorem d_Law_law_193 : decode b_Law_law 193 = .ok (.iadd, 1) := by decide +kernel
theorem d_Law_law_194 : decode b_Law_law 194 = .ok (.iaload, 1) := by decide +kernel
theorem d_Law_law_195 : decode b_Law_law 195 = .ok (.aload_n 0, 1) := by decide +kernel
theorem d_Law_law_196 : decode b_Law_law 196 = .ok (.iload 4, 2) := by decide +kernel
theorem d_Law_law_198 : decode b_Law_law 198 = .ok (.iconst 2, 1) := by decide +kernel
theorem d_Law_law_199 : decode b_Law_law 199 = .ok (.iadd, 1) := by decide +kernel
theorem d_Law_law_200 : decode b_Law_law 200 = .ok (.iaload, 1) := by decide +kernel
theorem d_Law_law_201 : decode b_Law_law 201 = .ok (.invokevirtual 60, 3) := by decide +kernel
theorem d_Law_law_204 : decode b_Law_law 204 = .ok (.aload_n 2, 1) := by decide +kernel
theorem d_Law_law_205 : decode b_Law_law 205 = .ok (.aload_n 0, 1) := by decide +kernel
theorem d_Law_law_206 : decode b_Law_law 206 = .ok (.iload 4, 2) := by decide +kernel
theorem d_Law_law_208 : decode b_Law_law 208 = .ok (.iconst 1, 1) := by decide +kernel
theorem d_Law_law_209 : decode b_Law_law 209 = .ok (.iadd, 1) := by decide +kernel
theorem d_Law_law_210 : decode b_Law_law 210 = .ok (.iaload, 1) := by decide +kernel
theorem d_Law_law_211 : decode b_Law_law 211 = .ok (.aload_n 0, 1) := by decide +kernel
theorem d_Law_law_212 : decode b_Law_law 212 = .ok (.iload 4, 2) := by decide +kernel
theorem d_Law_law_214 : decode b_Law_law 214 = .ok (.iconst 2, 1) := by decide +kernel
theorem d_Law_law_215 : decode b_Law_law 215 = .ok (.iadd, 1) := by decide +kernel
theorem d_Law_law_216 : decode b_Law_law 216 = .ok (.iaload, 1) := by decide +kernel
theorem d_Law_law_217 : decode b_Law_law 217 = .ok (.invokevirtual 63, 3) := by decide +kernel
theorem d_Law_law_220 : decode b_Law_law 220 = .ok (.goto 466, 3) := by decide +kernel
theorem d_Law_law_223 : decode b_Law_law 223 = .ok (.aload_n 1, 1) := by decide +kernel
theorem d_Law_law_224 : decode b_Law_law 224 = .ok (.aload_n 0, 1) := by decide +kernel
theorem d_Law_law_225 : decode b_Law_law 225 = .ok (.iload 4, 2) := by decide +kernel
theorem d_Law_law_227 : decode b_Law_law 227 = .ok (.iconst 1, 1) := by decide +kernel
theorem d_Law_law_228 : decode b_Law_law 228 = .ok (.iadd, 1) := by decide +kernel
theorem d_Law_law_229 : decode b_Law_law 229 = .ok (.iaload, 1) := by decide +kernel
theorem d_Law_law_230 : decode b_Law_law 230 = .ok (.invokevirtual 64, 3) := by decide +kernel
theorem d_Law_law_233 : decode b_Law_law 233 = .ok (.aload_n 2, 1) := by decide +kernel
theorem d_Law_law_234 : decode b_Law_law 234 = .ok (.aload_n 0, 1) := by decide +kernel
theorem d_Law_law_235 : decode b_Law_law 235 = .ok (.iload 4, 2) := by decide +kernel
theorem d_Law_law_237 : decode b_Law_law 237 = .ok (.iconst 1, 1) := by decide +kernel
theorem d_Law_law_238 : decode b_Law_law 238 = .ok (.iadd, 1) := by decide +kernel
theorem d_Law_law_239 : decode b_Law_law 239 = .ok (.iaload, 1) := by decide +kernel
theorem d_Law_law_240 : decode b_Law_law 240 = .ok (.invokevirtual 67, 3) := by decide +kernel
theorem d_Law_law_243 : decode b_Law_law 243 = .ok (.if_icmp .eq 443, 3) := by decide +kernel
theorem d_Law_law_246 : decode b_Law_law 246 = .ok (.iconst 0, 1) := by decide +kernel
theorem d_Law_law_247 : decode b_Law_law 247 = .ok (.ireturn, 1) := by decide +kernel
theorem d_Law_law_248 : decode b_Law_law 248 = .ok (.aload_n 1, 1) := by decide +kernel
theorem d_Law_law_249 : decode b_Law_law 249 = .ok (.aload_n 0, 1) := by decide +kernel
theorem d_Law_law_250 : decode b_Law_law 250 = .ok (.iload 4, 2) := by decide +kernel
theorem d_Law_law_252 : decode b_Law_law 252 = .ok (.iconst 1, 1) := by decide +kernel
theorem d_Law_law_253 : decode b_Law_law 253 = .ok (.iadd, 1) := by decide +kernel
theorem d_Law_law_254 : decode b_Law_law 254 = .ok (.iaload, 1) := by decide +kernel
theorem d_Law_law_255 : decode b_Law_law 255 = .ok (.aload_n 3, 1) := by decide +kernel
theorem d_Law_law_256 : decode b_Law_law 256 = .ok (.invokestatic 68, 3) := by decide +kernel
theorem d_Law_law_259 : decode b_Law_law 259 = .ok (.istore 5, 2) := by decide +kernel
theorem d_Law_law_261 : decode b_Law_law 261 = .ok (.aload_n 2, 1) := by decide +kernel
theorem d_Law_law_262 : decode b_Law_law 262 = .ok (.aload_n 0, 1) := by decide +kernel
theorem d_Law_law_263 : decode b_Law_law 263 = .ok (.iload 4, 2) := by decide +kernel
theorem d_Law_law_265 : decode b_Law_law 265 = .ok (.iconst 1, 1) := by decide +kernel
theorem d_Law_law_266 : decode b_Law_law 266 = .ok (.iadd, 1) := by decide +kernel
theorem d_Law_law_267 : decode b_Law_law 267 = .ok (.iaload, 1) := by decide +kernel
theorem d_Law_law_268 : decode b_Law_law 268 = .ok (.invokevirtual 71, 3) := by decide +kernel
theorem d_Law_law_271 : decode b_Law_law 271 = .ok (.istore 6, 2) := by decide +kernel
theorem d_Law_law_273 : decode b_Law_law 273 = .ok (.aload_n 2, 1) := by decide +kernel
theorem d_Law_law_274 : decode b_Law_law 274 = .ok (.invokevirtual 56, 3) := by decide +kernel
theorem d_Law_law_277 : decode b_Law_law 277 = .ok (.iload 5, 2) := by decide +kernel
theorem d_Law_law_279 : decode b_Law_law 279 = .ok (.if_icmp .eq 5, 3) := by decide +kernel
theorem d_Law_law_282 : decode b_Law_law 282 = .ok (.iconst 0, 1) := by decide +kernel
theorem d_Law_law_283 : decode b_Law_law 283 = .ok (.ireturn, 1) := by decide +kernel
theorem d_Law_law_284 : decode b_Law_law 284 = .ok (.iload 5, 2) := by decide +kernel
theorem d_Law_law_286 : decode b_Law_law 286 = .ok (.ifCond .ne 15, 3) := by decide +kernel
theorem d_Law_law_289 : decode b_Law_law 289 = .ok (.aload_n 3, 1) := by decide +kernel
theorem d_Law_law_290 : decode b_Law_law 290 = .ok (.iconst 0, 1) := by decide +kernel
theorem d_Law_law_291 : decode b_Law_law 291 = .ok (.laload, 1) := by decide +kernel
theorem d_Law_law_292 : decode b_Law_law 292 = .ok (.iload 6, 2) := by decide +kernel
theorem d_Law_law_294 : decode b_Law_law 294 = .ok (.i2l, 1) := by decide +kernel
theorem d_Law_law_295 : decode b_Law_law 295 = .ok (.lcmp, 1) := by decide +kernel
theorem d_Law_law_296 : decode b_Law_law 296 = .ok (.ifCond .eq 5, 3) := by decide +kernel
theorem d_Law_law_299 : decode b_Law_law 299 = .ok (.iconst 0, 1) := by decide +kernel
theorem d_Law_law_300 : decode b_Law_law 300 = .ok (.ireturn, 1) := by decide +kernel
theorem d_Law_law_301 : decode b_Law_law 301 = .ok (.goto 385, 3) := by decide +kernel
theorem d_Law_law_304 : decode b_Law_law 304 = .ok (.aload_n 1, 1) := by decide +kernel
theorem d_Law_law_305 : decode b_Law_law 305 = .ok (.aload_n 0, 1) := by decide +kernel
theorem d_Law_law_306 : decode b_Law_law 306 = .ok (.iload 4, 2) := by decide +kernel
theorem d_Law_law_308 : decode b_Law_law 308 = .ok (.iconst 1, 1) := by decide +kernel
theorem d_Law_law_309 : decode b_Law_law 309 = .ok (.iadd, 1) := by decide +kernel
theorem d_Law_law_310 : decode b_Law_law 310 = .ok (.iaload, 1) := by decide +kernel
theorem d_Law_law_311 : decode b_Law_law 311 = .ok (.aload_n 0, 1) := by decide +kernel
theorem d_Law_law_312 : decode b_Law_law 312 = .ok (.iload 4, 2) := by decide +kernel
theorem d_Law_law_314 : decode b_Law_law 314 = .ok (.iconst 2, 1) := by decide +kernel
theorem d_Law_law_315 : decode b_Law_law 315 = .ok (.iadd, 1) := by decide +kernel
theorem d_Law_law_316 : decode b_Law_law 316 = .ok (.iaload, 1) := by decide +kernel
theorem d_Law_law_317 : decode b_Law_law 317 = .ok (.aload_n 3, 1) := by decide +kernel
theorem d_Law_law_318 : decode b_Law_law 318 = .ok (.invokestatic 72, 3) := by decide +kernel
theorem d_Law_law_321 : decode b_Law_law 321 = .ok (.istore 5, 2) := by decide +kernel
theorem d_Law_law_323 : decode b_Law_law 323 = .ok (.aload_n 2, 1) := by decide +kernel
theorem d_Law_law_324 : decode b_Law_law 324 = .ok (.aload_n 0, 1) := by decide +kernel
theorem d_Law_law_325 : decode b_Law_law 325 = .ok (.iload 4, 2) := by decide +kernel
theorem d_Law_law_327 : decode b_Law_law 327 = .ok (.iconst 1, 1) := by decide +kernel
theorem d_Law_law_328 : decode b_Law_law 328 = .ok (.iadd, 1) := by decide +kernel
theorem d_Law_law_329 : decode b_Law_law 329 = .ok (.iaload, 1) := by decide +kernel
theorem d_Law_law_330 : decode b_Law_law 330 = .ok (.aload_n 0, 1) := by decide +kernel
theorem d_Law_law_331 : decode b_Law_law 331 = .ok (.iload 4, 2) := by decide +kernel
theorem d_Law_law_333 : decode b_Law_law 333 = .ok (.iconst 2, 1) := by decide +kernel
theorem d_Law_law_334 : decode b_Law_law 334 = .ok (.iadd, 1) := by decide +kernel
theorem d_Law_law_335 : decode b_Law_law 335 = .ok (.iaload, 1) := by decide +kernel
theorem d_Law_law_336 : decode b_Law_law 336 = .ok (.invokevirtual 75, 3) := by decide +kernel
theorem d_Law_law_339 : decode b_Law_law 339 = .ok (.istore 6, 2) := by decide +kernel
theorem d_Law_law_341 : decode b_Law_law 341 = .ok (.aload_n 2, 1) := by decide +kernel
theorem d_Law_law_342 : decode b_Law_law 342 = .ok (.invokevirtual 56, 3) := by decide +kernel
theorem d_Law_law_345 : decode b_Law_law 345 = .ok (.iload 5, 2) := by decide +kernel
theorem d_Law_law_347 : decode b_Law_law 347 = .ok (.if_icmp .eq 5, 3) := by decide +kernel
theorem d_Law_law_350 : decode b_Law_law 350 = .ok (.iconst 0, 1) := by decide +kernel
theorem d_Law_law_351 : decode b_Law_law 351 = .ok (.ireturn, 1) := by decide +kernel
theorem d_Law_law_352 : decode b_Law_law 352 = .ok (.iload 5, 2) := by decide +kernel
theorem d_Law_law_354 : decode b_Law_law 354 = .ok (.ifCond .ne 15, 3) := by decide +kernel
theorem d_Law_law_357 : decode b_Law_law 357 = .ok (.aload_n 3, 1) := by decide +kernel
theorem d_Law_law_358 : decode b_Law_law 358 = .ok (.iconst 0, 1) := by decide +kernel
theorem d_Law_law_359 : decode b_Law_law 359 = .ok (.laload, 1) := by decide +kernel
theorem d_Law_law_360 : decode b_Law_law 360 = .ok (.iload 6, 2) := by decide +kernel
theorem d_Law_law_362 : decode b_Law_law 362 = .ok (.i2l, 1) := by decide +kernel
theorem d_Law_law_363 : decode b_Law_law 363 = .ok (.lcmp, 1) := by decide +kernel
theorem d_Law_law_364 : decode b_Law_law 364 = .ok (.ifCond .eq 5, 3) := by decide +kernel
theorem d_Law_law_367 : decode b_Law_law 367 = .ok (.iconst 0, 1) := by decide +kernel
theorem d_Law_law_368 : decode b_Law_law 368 = .ok (.ireturn, 1) := by decide +kernel
theorem d_Law_law_369 : decode b_Law_law 369 = .ok (.goto 317, 3) := by decide +kernel
theorem d_Law_law_372 : decode b_Law_law 372 = .ok (.aload_n 1, 1) := by decide +kernel
theorem d_Law_law_373 : decode b_Law_law 373 = .ok (.aload_n 0, 1) := by decide +kernel
theorem d_Law_law_374 : decode b_Law_law 374 = .ok (.iload 4, 2) := by decide +kernel
theorem d_Law_law_376 : decode b_Law_law 376 = .ok (.iconst 1, 1) := by decide +kernel
theorem d_Law_law_377 : decode b_Law_law 377 = .ok (.iadd, 1) := by decide +kernel
theorem d_Law_law_378 : decode b_Law_law 378 = .ok (.iaload, 1) := by decide +kernel
theorem d_Law_law_379 : decode b_Law_law 379 = .ok (.aload_n 0, 1) := by decide +kernel
theorem d_Law_law_380 : decode b_Law_law 380 = .ok (.iload 4, 2) := by decide +kernel
theorem d_Law_law_382 : decode b_Law_law 382 = .ok (.iconst 2, 1) := by decide +kernel
theorem d_Law_law_383 : decode b_Law_law 383 = .ok (.iadd, 1) := by decide +kernel
theorem d_Law_law_384 : decode b_Law_law 384 = .ok (.iaload, 1) := by decide +kernel
theorem d_Law_law_385 : decode b_Law_law 385 = .ok (.invokestatic 76, 3) := by decide +kernel
theorem d_Law_law_388 : decode b_Law_law 388 = .ok (.istore 5, 2) := by decide +kernel
theorem d_Law_law_390 : decode b_Law_law 390 = .ok (.aload_n 2, 1) := by decide +kernel
theorem d_Law_law_391 : decode b_Law_law 391 = .ok (.aload_n 0, 1) := by decide +kernel
theorem d_Law_law_392 : decode b_Law_law 392 = .ok (.iload 4, 2) := by decide +kernel
theorem d_Law_law_394 : decode b_Law_law 394 = .ok (.iconst 1, 1) := by decide +kernel
theorem d_Law_law_395 : decode b_Law_law 395 = .ok (.iadd, 1) := by decide +kernel
theorem d_Law_law_396 : decode b_Law_law 396 = .ok (.iaload, 1) := by decide +kernel
theorem d_Law_law_397 : decode b_Law_law 397 = .ok (.aload_n 0, 1) := by decide +kernel
theorem d_Law_law_398 : decode b_Law_law 398 = .ok (.iload 4, 2) := by decide +kernel
theorem d_Law_law_400 : decode b_Law_law 400 = .ok (.iconst 2, 1) := by decide +kernel
theorem d_Law_law_401 : decode b_Law_law 401 = .ok (.iadd, 1) := by decide +kernel
theorem d_Law_law_402 : decode b_Law_law 402 = .ok (.iaload, 1) := by decide +kernel
theorem d_Law_law_403 : decode b_Law_law 403 = .ok (.invokevirtual 79, 3) := by decide +kernel
theorem d_Law_law_406 : decode b_Law_law 406 = .ok (.aload_n 2, 1) := by decide +kernel
theorem d_Law_law_407 : decode b_Law_law 407 = .ok (.invokevirtual 56, 3) := by decide +kernel
theorem d_Law_law_410 : decode b_Law_law 410 = .ok (.iload 5, 2) := by decide +kernel
theorem d_Law_law_412 : decode b_Law_law 412 = .ok (.if_icmp .eq 5, 3) := by decide +kernel
theorem d_Law_law_415 : decode b_Law_law 415 = .ok (.iconst 0, 1) := by decide +kernel
theorem d_Law_law_416 : decode b_Law_law 416 = .ok (.ireturn, 1) := by decide +kernel
theorem d_Law_law_417 : decode b_Law_law 417 = .ok (.goto 269, 3) := by decide +kernel
theorem d_Law_law_420 : decode b_Law_law 420 = .ok (.aload_n 1, 1) := by decide +kernel
theorem d_Law_law_421 : decode b_Law_law 421 = .ok (.aload_n 0, 1) := by decide +kernel
theorem d_Law_law_422 : decode b_Law_law 422 = .ok (.iload 4, 2) := by decide +kernel
theorem d_Law_law_424 : decode b_Law_law 424 = .ok (.iconst 1, 1) := by decide +kernel
theorem d_Law_law_425 : decode b_Law_law 425 = .ok (.iadd, 1) := by decide +kernel
theorem d_Law_law_426 : decode b_Law_law 426 = .ok (.iaload, 1) := by decide +kernel
theorem d_Law_law_427 : decode b_Law_law 427 = .ok (.aload_n 0, 1) := by decide +kernel
theorem d_Law_law_428 : decode b_Law_law 428 = .ok (.iload 4, 2) := by decide +kernel
theorem d_Law_law_430 : decode b_Law_law 430 = .ok (.iconst 2, 1) := by decide +kernel
theorem d_Law_law_431 : decode b_Law_law 431 = .ok (.iadd, 1) := by decide +kernel
theorem d_Law_law_432 : decode b_Law_law 432 = .ok (.iaload, 1) := by decide +kernel
theorem d_Law_law_433 : decode b_Law_law 433 = .ok (.aload_n 3, 1) := by decide +kernel
theorem d_Law_law_434 : decode b_Law_law 434 = .ok (.invokestatic 80, 3) := by decide +kernel
theorem d_Law_law_437 : decode b_Law_law 437 = .ok (.istore 5, 2) := by decide +kernel
theorem d_Law_law_439 : decode b_Law_law 439 = .ok (.aload_n 2, 1) := by decide +kernel
theorem d_Law_law_440 : decode b_Law_law 440 = .ok (.aload_n 0, 1) := by decide +kernel
theorem d_Law_law_441 : decode b_Law_law 441 = .ok (.iload 4, 2) := by decide +kernel
theorem d_Law_law_443 : decode b_Law_law 443 = .ok (.iconst 1, 1) := by decide +kernel
theorem d_Law_law_444 : decode b_Law_law 444 = .ok (.iadd, 1) := by decide +kernel
theorem d_Law_law_445 : decode b_Law_law 445 = .ok (.iaload, 1) := by decide +kernel
theorem d_Law_law_446 : decode b_Law_law 446 = .ok (.aload_n 0, 1) := by decide +kernel
theorem d_Law_law_447 : decode b_Law_law 447 = .ok (.iload 4, 2) := by decide +kernel
theorem d_Law_law_449 : decode b_Law_law 449 = .ok (.iconst 2, 1) := by decide +kernel
theorem d_Law_law_450 : decode b_Law_law 450 = .ok (.iadd, 1) := by decide +kernel
theorem d_Law_law_451 : decode b_Law_law 451 = .ok (.iaload, 1) := by decide +kernel
theorem d_Law_law_452 : decode b_Law_law 452 = .ok (.invokevirtual 82, 3) := by decide +kernel
theorem d_Law_law_455 : decode b_Law_law 455 = .ok (.istore 6, 2) := by decide +kernel
theorem d_Law_law_457 : decode b_Law_law 457 = .ok (.aload_n 2, 1) := by decide +kernel
theorem d_Law_law_458 : decode b_Law_law 458 = .ok (.invokevirtual 56, 3) := by decide +kernel
theorem d_Law_law_461 : decode b_Law_law 461 = .ok (.iload 5, 2) := by decide +kernel
theorem d_Law_law_463 : decode b_Law_law 463 = .ok (.if_icmp .eq 5, 3) := by decide +kernel
theorem d_Law_law_466 : decode b_Law_law 466 = .ok (.iconst 0, 1) := by decide +kernel
theorem d_Law_law_467 : decode b_Law_law 467 = .ok (.ireturn, 1) := by decide +kernel
theorem d_Law_law_468 : decode b_Law_law 468 = .ok (.iload 5, 2) := by decide +kernel
theorem d_Law_law_470 : decode b_Law_law 470 = .ok (.ifCond .ne 15, 3) := by decide +kernel
theorem d_Law_law_473 : decode b_Law_law 473 = .ok (.aload_n 3, 1) := by decide +kernel
theorem d_Law_law_474 : decode b_Law_law 474 = .ok (.iconst 0, 1) := by decide +kernel
theorem d_Law_law_475 : decode b_Law_law 475 = .ok (.laload, 1) := by decide +kernel
theorem d_Law_law_476 : decode b_Law_law 476 = .ok (.iload 6, 2) := by decide +kernel
theorem d_Law_law_478 : decode b_Law_law 478 = .ok (.i2l, 1) := by decide +kernel
theorem d_Law_law_479 : decode b_Law_law 479 = .ok (.lcmp, 1) := by decide +kernel
theorem d_Law_law_480 : decode b_Law_law 480 = .ok (.ifCond .eq 5, 3) := by decide +kernel
theorem d_Law_law_483 : decode b_Law_law 483 = .ok (.iconst 0, 1) := by decide +kernel
theorem d_Law_law_484 : decode b_Law_law 484 = .ok (.ireturn, 1) := by decide +kernel
theorem d_Law_law_485 : decode b_Law_law 485 = .ok (.goto 201, 3) := by decide +kernel
theorem d_Law_law_488 : decode b_Law_law 488 = .ok (.aload_n 1, 1) := by decide +kernel
theorem d_Law_law_489 : decode b_Law_law 489 = .ok (.aload_n 0, 1) := by decide +kernel
theorem d_Law_law_490 : decode b_Law_law 490 = .ok (.iload 4, 2) := by decide +kernel
theorem d_Law_law_492 : decode b_Law_law 492 = .ok (.iconst 1, 1) := by decide +kernel
theorem d_Law_law_493 : decode b_Law_law 493 = .ok (.iadd, 1) := by decide +kernel
theorem d_Law_law_494 : decode b_Law_law 494 = .ok (.iaload, 1) := by decide +kernel
theorem d_Law_law_495 : decode b_Law_law 495 = .ok (.aload_n 0, 1) := by decide +kernel
theorem d_Law_law_496 : decode b_Law_law 496 = .ok (.iload 4, 2) := by decide +kernel
theorem d_Law_law_498 : decode b_Law_law 498 = .ok (.iconst 2, 1) := by decide +kernel
theorem d_Law_law_499 : decode b_Law_law 499 = .ok (.iadd, 1) := by decide +kernel
theorem d_Law_law_500 : decode b_Law_law 500 = .ok (.iaload, 1) := by decide +kernel
theorem d_Law_law_501 : decode b_Law_law 501 = .ok (.aload_n 3, 1) := by decide +kernel
theorem d_Law_law_502 : decode b_Law_law 502 = .ok (.invokestatic 83, 3) := by decide +kernel
theorem d_Law_law_505 : decode b_Law_law 505 = .ok (.istore 5, 2) := by decide +kernel
theorem d_Law_law_507 : decode b_Law_law 507 = .ok (.aload_n 2, 1) := by decide +kernel
theorem d_Law_law_508 : decode b_Law_law 508 = .ok (.aload_n 0, 1) := by decide +kernel
theorem d_Law_law_509 : decode b_Law_law 509 = .ok (.iload 4, 2) := by decide +kernel
theorem d_Law_law_511 : decode b_Law_law 511 = .ok (.iconst 1, 1) := by decide +kernel
theorem d_Law_law_512 : decode b_Law_law 512 = .ok (.iadd, 1) := by decide +kernel
theorem d_Law_law_513 : decode b_Law_law 513 = .ok (.iaload, 1) := by decide +kernel
theorem d_Law_law_514 : decode b_Law_law 514 = .ok (.aload_n 0, 1) := by decide +kernel
theorem d_Law_law_515 : decode b_Law_law 515 = .ok (.iload 4, 2) := by decide +kernel
theorem d_Law_law_517 : decode b_Law_law 517 = .ok (.iconst 2, 1) := by decide +kernel
theorem d_Law_law_518 : decode b_Law_law 518 = .ok (.iadd, 1) := by decide +kernel
theorem d_Law_law_519 : decode b_Law_law 519 = .ok (.iaload, 1) := by decide +kernel
theorem d_Law_law_520 : decode b_Law_law 520 = .ok (.invokevirtual 85, 3) := by decide +kernel
theorem d_Law_law_523 : decode b_Law_law 523 = .ok (.istore 6, 2) := by decide +kernel
theorem d_Law_law_525 : decode b_Law_law 525 = .ok (.aload_n 2, 1) := by decide +kernel
theorem d_Law_law_526 : decode b_Law_law 526 = .ok (.invokevirtual 56, 3) := by decide +kernel
theorem d_Law_law_529 : decode b_Law_law 529 = .ok (.iload 5, 2) := by decide +kernel
theorem d_Law_law_531 : decode b_Law_law 531 = .ok (.if_icmp .eq 5, 3) := by decide +kernel
theorem d_Law_law_534 : decode b_Law_law 534 = .ok (.iconst 0, 1) := by decide +kernel
theorem d_Law_law_535 : decode b_Law_law 535 = .ok (.ireturn, 1) := by decide +kernel
theorem d_Law_law_536 : decode b_Law_law 536 = .ok (.iload 5, 2) := by decide +kernel
theorem d_Law_law_538 : decode b_Law_law 538 = .ok (.ifCond .ne 15, 3) := by decide +kernel
theorem d_Law_law_541 : decode b_Law_law 541 = .ok (.aload_n 3, 1) := by decide +kernel
theorem d_Law_law_542 : decode b_Law_law 542 = .ok (.iconst 0, 1) := by decide +kernel
theorem d_Law_law_543 : decode b_Law_law 543 = .ok (.laload, 1) := by decide +kernel
theorem d_Law_law_544 : decode b_Law_law 544 = .ok (.iload 6, 2) := by decide +kernel
theorem d_Law_law_546 : decode b_Law_law 546 = .ok (.i2l, 1) := by decide +kernel
theorem d_Law_law_547 : decode b_Law_law 547 = .ok (.lcmp, 1) := by decide +kernel
theorem d_Law_law_548 : decode b_Law_law 548 = .ok (.ifCond .eq 5, 3) := by decide +kernel
theorem d_Law_law_551 : decode b_Law_law 551 = .ok (.iconst 0, 1) := by decide +kernel
theorem d_Law_law_552 : decode b_Law_law 552 = .ok (.ireturn, 1) := by decide +kernel
theorem d_Law_law_553 : decode b_Law_law 553 = .ok (.goto 133, 3) := by decide +kernel
theorem d_Law_law_556 : decode b_Law_law 556 = .ok (.aload_n 1, 1) := by decide +kernel
theorem d_Law_law_557 : decode b_Law_law 557 = .ok (.aload_n 0, 1) := by decide +kernel
theorem d_Law_law_558 : decode b_Law_law 558 = .ok (.iload 4, 2) := by decide +kernel
theorem d_Law_law_560 : decode b_Law_law 560 = .ok (.iconst 1, 1) := by decide +kernel
theorem d_Law_law_561 : decode b_Law_law 561 = .ok (.iadd, 1) := by decide +kernel
theorem d_Law_law_562 : decode b_Law_law 562 = .ok (.iaload, 1) := by decide +kernel
theorem d_Law_law_563 : decode b_Law_law 563 = .ok (.aload_n 0, 1) := by decide +kernel
theorem d_Law_law_564 : decode b_Law_law 564 = .ok (.iload 4, 2) := by decide +kernel
theorem d_Law_law_566 : decode b_Law_law 566 = .ok (.iconst 2, 1) := by decide +kernel
theorem d_Law_law_567 : decode b_Law_law 567 = .ok (.iadd, 1) := by decide +kernel
theorem d_Law_law_568 : decode b_Law_law 568 = .ok (.iaload, 1) := by decide +kernel
theorem d_Law_law_569 : decode b_Law_law 569 = .ok (.aload_n 0, 1) := by decide +kernel
theorem d_Law_law_570 : decode b_Law_law 570 = .ok (.iload 4, 2) := by decide +kernel
theorem d_Law_law_572 : decode b_Law_law 572 = .ok (.iconst 3, 1) := by decide +kernel
theorem d_Law_law_573 : decode b_Law_law 573 = .ok (.iadd, 1) := by decide +kernel
theorem d_Law_law_574 : decode b_Law_law 574 = .ok (.iaload, 1) := by decide +kernel
theorem d_Law_law_575 : decode b_Law_law 575 = .ok (.aload_n 0, 1) := by decide +kernel
theorem d_Law_law_576 : decode b_Law_law 576 = .ok (.iload 4, 2) := by decide +kernel
theorem d_Law_law_578 : decode b_Law_law 578 = .ok (.iconst 4, 1) := by decide +kernel
theorem d_Law_law_579 : decode b_Law_law 579 = .ok (.iadd, 1) := by decide +kernel
theorem d_Law_law_580 : decode b_Law_law 580 = .ok (.iaload, 1) := by decide +kernel
theorem d_Law_law_581 : decode b_Law_law 581 = .ok (.aload_n 3, 1) := by decide +kernel
theorem d_Law_law_582 : decode b_Law_law 582 = .ok (.invokestatic 86, 3) := by decide +kernel
theorem d_Law_law_585 : decode b_Law_law 585 = .ok (.istore 5, 2) := by decide +kernel
theorem d_Law_law_587 : decode b_Law_law 587 = .ok (.aload_n 2, 1) := by decide +kernel
theorem d_Law_law_588 : decode b_Law_law 588 = .ok (.aload_n 0, 1) := by decide +kernel
theorem d_Law_law_589 : decode b_Law_law 589 = .ok (.iload 4, 2) := by decide +kernel
theorem d_Law_law_591 : decode b_Law_law 591 = .ok (.iconst 1, 1) := by decide +kernel
theorem d_Law_law_592 : decode b_Law_law 592 = .ok (.iadd, 1) := by decide +kernel
theorem d_Law_law_593 : decode b_Law_law 593 = .ok (.iaload, 1) := by decide +kernel
theorem d_Law_law_594 : decode b_Law_law 594 = .ok (.aload_n 0, 1) := by decide +kernel
theorem d_Law_law_595 : decode b_Law_law 595 = .ok (.iload 4, 2) := by decide +kernel
theorem d_Law_law_597 : decode b_Law_law 597 = .ok (.iconst 2, 1) := by decide +kernel
theorem d_Law_law_598 : decode b_Law_law 598 = .ok (.iadd, 1) := by decide +kernel
theorem d_Law_law_599 : decode b_Law_law 599 = .ok (.iaload, 1) := by decide +kernel
theorem d_Law_law_600 : decode b_Law_law 600 = .ok (.aload_n 0, 1) := by decide +kernel
theorem d_Law_law_601 : decode b_Law_law 601 = .ok (.iload 4, 2) := by decide +kernel
theorem d_Law_law_603 : decode b_Law_law 603 = .ok (.iconst 3, 1) := by decide +kernel
theorem d_Law_law_604 : decode b_Law_law 604 = .ok (.iadd, 1) := by decide +kernel
theorem d_Law_law_605 : decode b_Law_law 605 = .ok (.iaload, 1) := by decide +kernel
theorem d_Law_law_606 : decode b_Law_law 606 = .ok (.aload_n 0, 1) := by decide +kernel
theorem d_Law_law_607 : decode b_Law_law 607 = .ok (.iload 4, 2) := by decide +kernel
theorem d_Law_law_609 : decode b_Law_law 609 = .ok (.iconst 4, 1) := by decide +kernel
theorem d_Law_law_610 : decode b_Law_law 610 = .ok (.iadd, 1) := by decide +kernel
theorem d_Law_law_611 : decode b_Law_law 611 = .ok (.iaload, 1) := by decide +kernel
theorem d_Law_law_612 : decode b_Law_law 612 = .ok (.invokevirtual 89, 3) := by decide +kernel
theorem d_Law_law_615 : decode b_Law_law 615 = .ok (.istore 6, 2) := by decide +kernel
theorem d_Law_law_617 : decode b_Law_law 617 = .ok (.aload_n 2, 1) := by decide +kernel
theorem d_Law_law_618 : decode b_Law_law 618 = .ok (.invokevirtual 56, 3) := by decide +kernel
theorem d_Law_law_621 : decode b_Law_law 621 = .ok (.iload 5, 2) := by decide +kernel
theorem d_Law_law_623 : decode b_Law_law 623 = .ok (.if_icmp .eq 5, 3) := by decide +kernel
theorem d_Law_law_626 : decode b_Law_law 626 = .ok (.iconst 0, 1) := by decide +kernel
theorem d_Law_law_627 : decode b_Law_law 627 = .ok (.ireturn, 1) := by decide +kernel
theorem d_Law_law_628 : decode b_Law_law 628 = .ok (.iload 5, 2) := by decide +kernel
theorem d_Law_law_630 : decode b_Law_law 630 = .ok (.ifCond .ne 15, 3) := by decide +kernel
theorem d_Law_law_633 : decode b_Law_law 633 = .ok (.aload_n 3, 1) := by decide +kernel
theorem d_Law_law_634 : decode b_Law_law 634 = .ok (.iconst 0, 1) := by decide +kernel
theorem d_Law_law_635 : decode b_Law_law 635 = .ok (.laload, 1) := by decide +kernel
theorem d_Law_law_636 : decode b_Law_law 636 = .ok (.iload 6, 2) := by decide +kernel
theorem d_Law_law_638 : decode b_Law_law 638 = .ok (.i2l, 1) := by decide +kernel
theorem d_Law_law_639 : decode b_Law_law 639 = .ok (.lcmp, 1) := by decide +kernel
theorem d_Law_law_640 : decode b_Law_law 640 = .ok (.ifCond .eq 5, 3) := by decide +kernel
theorem d_Law_law_643 : decode b_Law_law 643 = .ok (.iconst 0, 1) := by decide +kernel
theorem d_Law_law_644 : decode b_Law_law 644 = .ok (.ireturn, 1) := by decide +kernel
theorem d_Law_law_645 : decode b_Law_law 645 = .ok (.goto 41, 3) := by decide +kernel
theorem d_Law_law_648 : decode b_Law_law 648 = .ok (.aload_n 1, 1) := by decide +kernel
theorem d_Law_law_649 : decode b_Law_law 649 = .ok (.aload_n 0, 1) := by decide +kernel
theorem d_Law_law_650 : decode b_Law_law 650 = .ok (.iload 4, 2) := by decide +kernel
theorem d_Law_law_652 : decode b_Law_law 652 = .ok (.iconst 1, 1) := by decide +kernel
theorem d_Law_law_653 : decode b_Law_law 653 = .ok (.iadd, 1) := by decide +kernel
theorem d_Law_law_654 : decode b_Law_law 654 = .ok (.iaload, 1) := by decide +kernel
theorem d_Law_law_655 : decode b_Law_law 655 = .ok (.invokevirtual 90, 3) := by decide +kernel
theorem d_Law_law_658 : decode b_Law_law 658 = .ok (.aload_n 2, 1) := by decide +kernel
theorem d_Law_law_659 : decode b_Law_law 659 = .ok (.aload_n 0, 1) := by decide +kernel
theorem d_Law_law_660 : decode b_Law_law 660 = .ok (.iload 4, 2) := by decide +kernel
theorem d_Law_law_662 : decode b_Law_law 662 = .ok (.iconst 1, 1) := by decide +kernel
theorem d_Law_law_663 : decode b_Law_law 663 = .ok (.iadd, 1) := by decide +kernel
theorem d_Law_law_664 : decode b_Law_law 664 = .ok (.iaload, 1) := by decide +kernel
theorem d_Law_law_665 : decode b_Law_law 665 = .ok (.invokevirtual 93, 3) := by decide +kernel
theorem d_Law_law_668 : decode b_Law_law 668 = .ok (.if_icmp .eq 18, 3) := by decide +kernel
theorem d_Law_law_671 : decode b_Law_law 671 = .ok (.iconst 0, 1) := by decide +kernel
theorem d_Law_law_672 : decode b_Law_law 672 = .ok (.ireturn, 1) := by decide +kernel
theorem d_Law_law_673 : decode b_Law_law 673 = .ok (.aload_n 1, 1) := by decide +kernel
theorem d_Law_law_674 : decode b_Law_law 674 = .ok (.invokevirtual 94, 3) := by decide +kernel
theorem d_Law_law_677 : decode b_Law_law 677 = .ok (.aload_n 2, 1) := by decide +kernel
theorem d_Law_law_678 : decode b_Law_law 678 = .ok (.invokevirtual 97, 3) := by decide +kernel
theorem d_Law_law_681 : decode b_Law_law 681 = .ok (.if_icmp .eq 5, 3) := by decide +kernel
theorem d_Law_law_684 : decode b_Law_law 684 = .ok (.iconst 0, 1) := by decide +kernel
theorem d_Law_law_685 : decode b_Law_law 685 = .ok (.ireturn, 1) := by decide +kernel
theorem d_Law_law_686 : decode b_Law_law 686 = .ok (.iinc 4 5, 3) := by decide +kernel
theorem d_Law_law_689 : decode b_Law_law 689 = .ok (.goto (-636), 3) := by decide +kernel
theorem d_Law_law_692 : decode b_Law_law 692 = .ok (.iconst 1, 1) := by decide +kernel
theorem d_Law_law_693 : decode b_Law_law 693 = .ok (.ireturn, 1) := by decide +kernel
end
section
def q_imm (w : Int32) : Int32 := w >>> ((11 : Int32) &&& 31)
def q_A (w : Int32) : Int32 := (w >>> ((4 : Int32) &&& 31)) &&& 7
def q_B (w : Int32) : Int32 := (w >>> ((7 : Int32) &&& 31)) &&& 7
def q_C (w : Int32) : Int32 := q_imm w &&& 7
def q_line (x : Int32) : Int32 := (x &&& 63) >>> ((1 : Int32) &&& 31)
def q_ix (x : Int32) : Nat := x.toNatClampNeg
theorem q_and (x : Int32) {m : Int32} (k : Nat) (hm : m.toBitVec.toNat = 2 ^ k - 1) (hk : k ≤ 30) : x &&& m = nI (q_ix (x &&& m)) ∧ q_ix (x &&& m) < 2 ^ k := by
  obtain ⟨j, h1, h2⟩ := pk_andE x k hm
  have h3 : 2 ^ k ≤ 2 ^ 30 := Nat.pow_le_pow_right (by decide) hk
  have h4 : q_ix (x &&& m) = j := by
    rw [h2]
    exact nI_clamp (by omega)
  rw [h4]
  exact ⟨h2, h1⟩
theorem q_m63 (x : Int32) : x &&& 63 = nI (q_ix (x &&& 63)) := (q_and x 6 (by decide) (by decide)).1
theorem q_l63 (x : Int32) : q_ix (x &&& 63) < 64 := (q_and x 6 (by decide) (by decide)).2
theorem q_m15 (x : Int32) : x &&& 15 = nI (q_ix (x &&& 15)) := (q_and x 4 (by decide) (by decide)).1
theorem q_l15 (x : Int32) : q_ix (x &&& 15) < 16 := (q_and x 4 (by decide) (by decide)).2
theorem q_m7 (x : Int32) : x &&& 7 = nI (q_ix (x &&& 7)) := (q_and x 3 (by decide) (by decide)).1
theorem q_l7 (x : Int32) : q_ix (x &&& 7) < 8 := (q_and x 3 (by decide) (by decide)).2
theorem ks_n64 {P : ks_P} (hP : ks_ok P) : ks_n P ≤ 64 := by have := hP.2.1; omega
theorem ks_T12 {P : ks_P} (hP : ks_ok P) : ks_T P ≤ 12 := by
  have h1 := hP.2.2.2.2.1
  have h2 : ks_S P ≤ 4 := by rcases hP.2.2.1 with h | h | h <;> omega
  exact Nat.mul_le_mul h2 h1
theorem ks_T64 {P : ks_P} (hP : ks_ok P) : ks_T P ≤ 64 := by have := ks_T12 hP; omega
theorem kw_st {P : ks_P} {a a' b b' : ks_M} {o o' : ks_O} (h1 : a = a') (h2 : b = b') (h3 : o = o') : ∀ k, (ks_dm P).1 k → ks_sl P a b o k = ks_sl P a' b' o' k := by
  subst h1; subst h2; subst h3; exact fun _ _ => rfl
def k_wget (a : ks_M) (c j : Nat) (x : Int32) : Int32 := if x &&& 1 = 0 then a (7, c, j) 3 else a (7, c, j) 4
def k_wput (a : ks_M) (c j : Nat) (x v : Int32) : ks_M := if x &&& 1 = 0 then ks_up a (7, c, j) 3 v else ks_up a (7, c, j) 4 v
def k_tell (a : ks_M) (c j : Nat) (x : Int32) : Int32 := if x = 1 then a (7, c, j) 1 else if x = 2 then a (7, c, j) 2 else if x = 3 then a (7, c, j) 3 else a (7, c, j) 4
def k_get (a : ks_M) (x : Int32) : Int32 := a (2, 0, 0) (q_ix (x &&& 63))
def k_put (a : ks_M) (x v : Int32) : ks_M := ks_up a (2, 0, 0) (q_ix (x &&& 63)) v
def k_keep1 (a : ks_M) (c j : Nat) : ks_M := k_put a (2 * a (7, c, j) 1) (a (7, c, j) 3)
def k_keep (a : ks_M) (c j : Nat) : ks_M := k_put (k_keep1 a c j) (2 * k_keep1 a c j (7, c, j) 1 + 1) (k_keep1 a c j (7, c, j) 4)
def k_fill1 (a : ks_M) (c j : Nat) (l : Int32) : ks_M := ks_up a (7, c, j) 1 l
def k_fill2 (a : ks_M) (c j : Nat) (l : Int32) : ks_M := ks_up (k_fill1 a c j l) (7, c, j) 3 (k_get (k_fill1 a c j l) (2 * l))
def k_fill (a : ks_M) (c j : Nat) (l : Int32) : ks_M := ks_up (k_fill2 a c j l) (7, c, j) 4 (k_get (k_fill2 a c j l) (2 * l + 1))
def k_find (a : ks_M) (c l : Nat) : Nat → Nat → Option Nat
  | 0, _ => none
  | k + 1, j => if ¬ a (7, c, j) 0 = 0 ∧ a (7, c, j) 1 = nI l then some j else k_find a c l k (j + 1)
def k_bet (a : ks_M) (c j : Nat) (q : Option Nat) : Bool := match q with
  | none => true
  | some i => decide (a (7, c, j) 5 < a (7, c, i) 5)
def k_room (a : ks_M) (c : Nat) : Nat → Nat → Option Nat → Option Nat
  | 0, _, q => q
  | k + 1, j, q => if a (7, c, j) 0 = 0 then some j else k_room a c k (j + 1) (if a (7, c, j) 2 = 0 ∧ k_bet a c j q = true then some j else q)
def k_dw (a : ks_M) (c : Nat) : Nat → ks_M
  | 0 => a
  | k + 1 => if ¬ k_dw a c k (7, c, k) 2 &&& 2 = 0 then ks_up (k_dw a c k) (7, c, k) 0 0 else k_dw a c k
def k_dm (a : ks_M) (c : Nat) : Nat → ks_M
  | 0 => a
  | k + 1 => ks_up (k_dm a c k) (7, c, k) 2 0
def k_cp (a : ks_M) (k0 k1 : tk_K) (n : Nat) : ks_M := fun k i => if k = k1 ∧ i < n then a k0 i else a k i
def k_ab1 (T : Nat) (a : ks_M) (c : Nat) (v : Int32) : ks_M := ks_up (k_cp (k_dm (k_dw a c T) c T) (10, c, 0) (9, c, 0) 8) (9, c, 0) 7 v
def k_ab2 (T : Nat) (a : ks_M) (c : Nat) (v : Int32) : ks_M := ks_up (ks_up (k_ab1 T a c v) (4, c, 0) 6 (k_ab1 T a c v (4, c, 0) 7)) (4, c, 0) 8 0
def k_abort (T : Nat) (a : ks_M) (c : Nat) (cause : Nat) (more : Int32) : ks_M := ks_up (k_ab2 T a c (nI cause + more)) (11, c, 0) cause (k_ab2 T a c (nI cause + more) (11, c, 0) cause + 1)
def k_reg (a : ks_M) (c : Nat) (x : Int32) : Int32 := a (9, c, 0) (q_ix x)
theorem q_mA (x : Int32) : q_A x = nI (q_ix (q_A x)) := q_m7 _
theorem q_lA (x : Int32) : q_ix (q_A x) < 8 := q_l7 _
theorem q_mB (x : Int32) : q_B x = nI (q_ix (q_B x)) := q_m7 _
theorem q_lB (x : Int32) : q_ix (q_B x) < 8 := q_l7 _
theorem q_mC (x : Int32) : q_C x = nI (q_ix (q_C x)) := q_m7 _
theorem q_lC (x : Int32) : q_ix (q_C x) < 8 := q_l7 _
def k_addr (a : ks_M) (c : Nat) (w : Int32) : Int32 := k_reg a c (q_B w) + q_imm w
def k_reckon (a : ks_M) (c : Nat) (w : Int32) : ks_M :=
  ks_up a (9, c, 0) (q_ix (q_A w)) (if w &&& 15 = 1 then q_imm w else if w &&& 15 = 2 then k_reg a c (q_B w) + k_reg a c (q_C w) else if w &&& 15 = 3 then k_reg a c (q_B w) - k_reg a c (q_C w) else if w &&& 15 = 4 then k_reg a c (q_B w) &&& k_reg a c (q_C w) else if w &&& 15 = 12 then a (4, c, 0) 8 else nI c)
def k_jump (a : ks_M) (c : Nat) (x : Int32) : ks_M := ks_up a (4, c, 0) 6 ((a (4, c, 0) 6 + x) &&& 15)
def k_branch (a : ks_M) (c : Nat) (w : Int32) : ks_M := if w &&& 15 = 7 then (if k_reg a c (q_A w) = 0 then k_jump a c (q_imm w) else a) else (if k_reg a c (q_B w) ≤ k_reg a c (q_A w) then a else k_jump a c (q_imm w))
def k_note (a : ks_M) (c : Nat) (x : Int32) : ks_M := ks_up (k_cp a (9, c, 0) (10, c, 0) 8) (4, c, 0) 7 ((k_cp a (9, c, 0) (10, c, 0) 8 (4, c, 0) 6 + x) &&& 15)
def k_deep (a : ks_M) (c : Nat) : ks_M := ks_up a (4, c, 0) 8 (a (4, c, 0) 8 + 1)
def k_begin (T : Nat) (a : ks_M) (c : Nat) (x : Int32) : Int32 × ks_M := if a (4, c, 0) 8 = 3 then (2, k_abort T a c 3 0) else if a (4, c, 0) 8 = 0 then (4, k_deep (k_note a c x) c) else (4, k_deep a c)
def k_end1 (a : ks_M) (c : Nat) : ks_M := ks_up a (4, c, 0) 8 (a (4, c, 0) 8 - 1)
def k_end2 (T : Nat) (a : ks_M) (c : Nat) : ks_M := ks_up (k_dm (k_end1 a c) c T) (11, c, 0) 0 (k_dm (k_end1 a c) c T (11, c, 0) 0 + 1)
def k_end (T : Nat) (a : ks_M) (c : Nat) : Int32 × ks_M := if k_end1 a c (4, c, 0) 8 ≤ 0 then (3, k_end2 T a c) else (4, k_end1 a c)
def k_give (T : Nat) (a : ks_M) (c : Nat) (x : Int32) : Int32 × ks_M := if a (4, c, 0) 8 = 0 then (4, a) else (2, k_abort T a c 4 (8 * (x &&& 255)))
def k_fault (T : Nat) (a : ks_M) (c : Nat) (x : Int32) : Int32 × ks_M := if a (4, c, 0) 8 ≤ 0 then (0, ks_up (ks_up a (4, c, 0) 9 1) (4, c, 0) 6 x) else (2, k_abort T a c 5 0)
def q_b (w : Bool) : Int32 := if w then 1 else 0
def k_kp (a : ks_M) (c j : Nat) : ks_M := if a (7, c, j) 0 = 2 then k_keep a c j else a
def k_meet1 (T : Nat) (a : ks_M) (c j : Nat) (w : Bool) : ks_M := if a (7, c, j) 2 &&& 2 = 0 then (if w = true then (if a (7, c, j) 2 = 0 then a else k_abort T a c 1 0) else a) else k_abort T a c 1 0
def k_meet2 (a : ks_M) (c j : Nat) (w : Bool) : ks_M := if a (7, c, j) 0 = 0 then a else ks_up (k_kp a c j) (7, c, j) 0 (if w = true then 0 else 1)
def k_meet (T : Nat) (a : ks_M) (c j : Nat) (w : Bool) : ks_M := k_meet2 (k_meet1 T a c j w) c j w
def k_first (S W l : Nat) : Nat := l % S * W
def k_ask1 (S W : Nat) (x : Int32) (l : Nat) (w : Bool) (c : Nat) (a : ks_M) : ks_M := if nI c = x then a else match k_find a c l W (k_first S W l) with
  | none => a
  | some j => k_meet (S * W) a c j w
def k_send (S W : Nat) (x : Int32) (l : Nat) (w : Bool) : Nat → Nat → ks_M → ks_M
  | 0, _, a => a
  | k + 1, c, a => k_send S W x l w k (c + 1) (k_ask1 S W x l w c a)
def k_refill (a : ks_M) (c j : Nat) (l : Int32) : ks_M := ks_up (k_fill (k_kp a c j) c j l) (7, c, j) 0 1
def k_kp2 (a : ks_M) (c j : Nat) (t : Bool) : ks_M := if t = true then (if a (7, c, j) 0 = 2 then (if a (7, c, j) 2 &&& 2 = 0 then k_keep a c j else a) else a) else a
def k_modify (a : ks_M) (c j : Nat) (t : Bool) : ks_M := ks_up (k_kp2 a c j t) (7, c, j) 0 2
def k_ask (n S W : Nat) (a : ks_M) (c l : Nat) (w : Bool) : ks_M := k_send S W (nI c) l w n 0 (ks_up a (0, 0, 0) 2 (a (0, 0, 0) 2 + 1))
def k_rq (n S W : Nat) (a : ks_M) (c l : Nat) (w : Bool) (had : Bool) (j : Nat) : ks_M := if had = true then (if w = true then (if a (7, c, j) 0 = 2 then a else k_ask n S W a c l w) else a) else k_ask n S W a c l w
def k_rf (a : ks_M) (c j l : Nat) (had : Bool) : ks_M := if had = true then a else k_refill a c j (nI l)
def k_md (a : ks_M) (c j : Nat) (w : Bool) : ks_M := if w = true then (if a (4, c, 0) 8 ≤ 0 then k_modify a c j false else k_modify a c j true) else a
def k_mk (a : ks_M) (c j : Nat) (w : Bool) : ks_M := if a (4, c, 0) 8 ≤ 0 then a else ks_up a (7, c, j) 2 (a (7, c, j) 2 ||| (if w = true then 2 else 1))
def k_us1 (a : ks_M) : ks_M := ks_up a (0, 0, 0) 3 (a (0, 0, 0) 3 + 1)
def k_us (a : ks_M) (c j : Nat) : ks_M := ks_up (k_us1 a) (7, c, j) 5 (k_us1 a (0, 0, 0) 3)
def k_acc2 (n S W : Nat) (a : ks_M) (c l : Nat) (w had : Bool) (j : Nat) : ks_M := k_us (k_mk (k_md (k_rf (k_rq n S W a c l w had j) c j l had) c j w) c j w) c j
def k_acc (n S W : Nat) (a : ks_M) (c l : Nat) (w : Bool) : Option Nat × ks_M := match k_find a c l W (k_first S W l) with
  | some j => (some j, k_acc2 n S W a c l w true j)
  | none => match k_room a c W (k_first S W l) none with
    | some j => (some j, k_acc2 n S W a c l w false j)
    | none => (none, k_abort (S * W) a c 2 0)
def q_ln (x : Int32) : Nat := q_ix (x &&& 63) / 2
theorem q_ln_lt (x : Int32) : q_ln x < 32 := by have := q_l63 x; unfold q_ln; omega
theorem q_ln_eq (x : Int32) : q_line x = nI (q_ln x) := by
  have h := q_l63 x
  unfold q_line q_ln
  rw [q_m63 x]
  have h2 : q_ix (nI (q_ix (x &&& 63))) = q_ix (x &&& 63) := nI_clamp (by omega)
  rw [h2, pk_shrN (by omega) _ 1 (by decide)]
def k_load (n S W : Nat) (a : ks_M) (c : Nat) (w : Int32) : Int32 × ks_M := match (k_acc n S W a c (q_ln (k_addr a c w)) false).1 with
  | none => (2, (k_acc n S W a c (q_ln (k_addr a c w)) false).2)
  | some j => (4, ks_up (k_acc n S W a c (q_ln (k_addr a c w)) false).2 (9, c, 0) (q_ix (q_A w)) (k_wget (k_acc n S W a c (q_ln (k_addr a c w)) false).2 c j (k_addr a c w)))
def k_save (n S W : Nat) (a : ks_M) (c : Nat) (w : Int32) : Int32 × ks_M := match (k_acc n S W a c (q_ln (k_addr a c w)) true).1 with
  | none => (2, (k_acc n S W a c (q_ln (k_addr a c w)) true).2)
  | some j => (4, k_wput (k_acc n S W a c (q_ln (k_addr a c w)) true).2 c j (k_addr a c w) (k_reg (k_acc n S W a c (q_ln (k_addr a c w)) true).2 c (q_A w)))
def q_pc (x : Int32) : Prop := x = nI (q_ix x) ∧ q_ix x < 16
def k_word (a : ks_M) (c : Nat) : Int32 := a (8, c, 0) (q_ix (a (4, c, 0) 6))
def k_next (a : ks_M) (c : Nat) : ks_M := ks_up a (4, c, 0) 6 ((a (4, c, 0) 6 + 1) &&& 15)
def k_do (n S W : Nat) (a : ks_M) (c : Nat) (w x : Int32) : Int32 × ks_M :=
  if w &&& 15 = 0 then (1, ks_up a (4, c, 0) 6 x) else if w &&& 15 = 5 then k_load n S W a c w else if w &&& 15 = 6 then k_save n S W a c w else if w &&& 15 = 7 then (4, k_branch a c w) else if w &&& 15 = 8 then (4, k_branch a c w) else if w &&& 15 = 9 then k_begin (S * W) a c (q_imm w) else if w &&& 15 = 10 then (if a (4, c, 0) 8 = 0 then k_fault (S * W) a c x else k_end (S * W) a c) else if w &&& 15 = 11 then k_give (S * W) a c (q_imm w) else if w &&& 15 = 1 then (4, k_reckon a c w) else if w &&& 15 = 2 then (4, k_reckon a c w) else if w &&& 15 = 3 then (4, k_reckon a c w) else if w &&& 15 = 4 then (4, k_reckon a c w) else if w &&& 15 = 12 then (4, k_reckon a c w) else if w &&& 15 = 13 then (4, k_reckon a c w) else k_fault (S * W) a c x
def k_step (n S W : Nat) (a : ks_M) (c : Nat) : Int32 × ks_M := if a (4, c, 0) 9 = 0 then k_do n S W (k_next a c) c (k_word a c) (a (4, c, 0) 6) else (0, a)
def k_pk (S W : Nat) (a : ks_M) (l : Nat) (x : Int32) : Nat → Nat → Int32
  | 0, _ => k_get a x
  | k + 1, c => match k_find a c l W (k_first S W l) with
    | none => k_pk S W a l x k (c + 1)
    | some j => if a (7, c, j) 0 = 2 then (if a (7, c, j) 2 &&& 2 = 0 then k_wget a c j x else k_pk S W a l x k (c + 1)) else k_pk S W a l x k (c + 1)
def k_poke (n S W : Nat) (a : ks_M) (x v : Int32) : ks_M := k_put (k_send S W (-1) (q_ln x) true n 0 a) x v
theorem k_find_lt (a : ks_M) (c l : Nat) : ∀ (k j0 : Nat) {j : Nat}, k_find a c l k j0 = some j → j0 ≤ j ∧ j < j0 + k
  | 0, j0, j, h => by cases h
  | k + 1, j0, j, h => by
    rw [k_find] at h
    split at h
    · cases h; omega
    · have := k_find_lt a c l k (j0 + 1) h
      omega
theorem k_room_lt (a : ks_M) (c : Nat) : ∀ (k j0 : Nat) (q : Option Nat) {j : Nat}, k_room a c k j0 q = some j → (j0 ≤ j ∧ j < j0 + k) ∨ q = some j
  | 0, j0, q, j, h => Or.inr h
  | k + 1, j0, q, j, h => by
    rw [k_room] at h
    split at h
    · cases h; left; omega
    · rcases k_room_lt a c k (j0 + 1) _ h with h1 | h1
      · left; omega
      · split at h1
        · cases h1; left; omega
        · exact Or.inr h1
end
section
section KX
variable {p : Program} {l : Launch} {e : Env} {R : Room} {s : State} {m : MethodId} {args : Array Value} {below : List Frame} {meth : Method} {c : Code} {G : tk_G} {dm : tk_W} {nL cells slots : Nat} {Q : State → Prop} {sl : tk_L} {pc : Nat} {L : List (Option Value)} {st : List Value}
variable {own : String} {cc : ByteArray} {Ts : List Cond}
theorem tk_tableAt (X : tk_X p m c s args G own cc nL Ts) {dflt lo hi : Int} {offs : Array Int} {len : Nat} {x K : Int32} {off : Int} {tgt : Nat} (hx : x = K) (hdg : decode cc pc = .ok (.tableswitch dflt lo hi offs, len)) (h1 : ¬ K.toInt < lo) (h2 : ¬ hi < K.toInt) (ho : offs[(K.toInt - lo).toNat]? = some off) (ht : (pc : Int) + off = (tgt : Int)) (k : tk_go p l e R s m args below meth c G dm nL cells slots Q sl tgt L st) : tk_go p l e R s m args below meth c G dm nL cells slots Q sl pc L (.int x :: st) := by
  subst hx
  exact tk_tableIn X hdg h1 h2 ho ht k
end KX
theorem ks_cpy (P : ks_P) (a b : ks_M) (o : ks_O) {k0 k1 : tk_K} (h0 : ∀ j, ks_int k0 j = true) (h1 : ∀ j, ks_int k1 j = true) (n : Nat) : tk_cp (ks_sl P a b o) k0 k1 n = ks_sl P (k_cp a k0 k1 n) b o := by
  funext k j
  unfold tk_cp
  by_cases h : k = k1 ∧ j < n
  · rw [if_pos h]
    obtain ⟨rfl, hj⟩ := h
    simp [ks_sl, h0, h1, k_cp, hj]
  · rw [if_neg h]
    simp only [ks_sl, k_cp]
    rw [if_neg h]
section KY
variable {p : Program} {l : Launch} {e : Env} {R : Room} {s : State} {m : MethodId} {args : Array Value} {below : List Frame} {meth : Method} {c : Code} {P : ks_P} {nL cells slots : Nat} {Q : State → Prop} {a b : ks_M} {o : ks_O} {pc : Nat} {L : List (Option Value)} {st : List Value}
variable {own : String} {cc : ByteArray}
theorem kw_copy (X : tk_X p m c s args (ks_G P) own cc nL WS) {index : Nat} (hlink : Cond.methodLink own index arraycopyName ∈ WS) {k0 k1 : tk_K} (hk0 : (ks_dm P).1 k0) (hk1 : (ks_dm P).1 k1) (hkd0 : ks_kd P k0 = .inr (0, 8)) (hkd1 : ks_kd P k1 = .inr (0, 8)) (h0 : ∀ j, ks_int k0 j = true) (h1 : ∀ j, ks_int k1 j = true) (hframes : 1 ≤ R.frames) (hlocals : (st.map fun v => v.category).sum + 18 ≤ R.locals) (hdg : decode cc pc = .ok (.invokestatic index, 3))
    (kk : tk_go p l e R s m args below meth c (ks_G P) (ks_dm P) nL cells slots Q (ks_sl P (k_cp a k0 k1 8) b o) (pc + 3) L st) : tk_go p l e R s m args below meth c (ks_G P) (ks_dm P) nL cells slots Q (ks_sl P a b o) pc L (.int 8 :: .int 0 :: .ref (tk_ad (ks_G P) k1) :: .int 0 :: .ref (tk_ad (ks_G P) k0) :: st) := by
  refine tk_copy X (dm := ks_dm P) hlink m_cp_n m_cp_s mi_System hk0 hk1 hkd0 hkd1 rfl (f := a k0) (g := a k1) (fun j _ => by simp only [ks_sl, h0]) (fun j _ => by simp only [ks_sl, h1]) (n := 8) rfl (by decide) (by decide) (by decide) (by decide) hframes ?_ hdg ?_
  · exact hlocals
  · rw [ks_cpy P a b o h0 h1]
    exact kk
end KY
def k_ref (P : ks_P) (c : Nat) (q : Option Nat) : Value := match q with
  | none => .null
  | some j => .ref (tk_ad (ks_G P) (7, c, j))
theorem q_inc (j : Nat) : nI j + Int32.ofInt 1 = nI (j + 1) := nI_1 j
theorem q_first {P : ks_P} (hP : ks_ok P) {l : Nat} (hl : l < 32) : (nI l &&& (nI (ks_S P) - 1)) * nI (ks_W P) = nI (k_first (ks_S P) (ks_W P) l) := by
  rcases hP.2.2.1 with h | h | h
  · rw [h, pk_andN (by omega) 0 (by decide), pk_mul]
    rfl
  · rw [h, pk_andN (by omega) 1 (by decide), pk_mul]
    rfl
  · rw [h, pk_andN (by omega) 2 (by decide), pk_mul]
    rfl
theorem k_first_le {P : ks_P} (hP : ks_ok P) (l : Nat) : k_first (ks_S P) (ks_W P) l + ks_W P ≤ ks_T P := by
  have h0 : 0 < ks_S P := by rcases hP.2.2.1 with h | h | h <;> omega
  have h1 : l % ks_S P + 1 ≤ ks_S P := Nat.mod_lt l h0
  have h2 := Nat.mul_le_mul_right (ks_W P) h1
  unfold k_first
  rw [Nat.add_mul, Nat.one_mul] at h2
  exact h2
theorem k_find_T {P : ks_P} (hP : ks_ok P) {a : ks_M} {c l j : Nat} (h : k_find a c l (ks_W P) (k_first (ks_S P) (ks_W P) l) = some j) : j < ks_T P := by
  have h1 := k_find_lt a c l _ _ h
  have h2 := k_first_le hP l
  omega
theorem k_room_T {P : ks_P} (hP : ks_ok P) {a : ks_M} {c l j : Nat} (h : k_room a c (ks_W P) (k_first (ks_S P) (ks_W P) l) none = some j) : j < ks_T P := by
  rcases k_room_lt a c _ _ _ h with h1 | h1
  · have h2 := k_first_le hP l
    omega
  · cases h1
theorem k_acc_lt {P : ks_P} (hP : ks_ok P) {a : ks_M} {c l j : Nat} {w : Bool} (h : (k_acc (ks_n P) (ks_S P) (ks_W P) a c l w).1 = some j) : j < ks_T P := by
  unfold k_acc at h
  split at h
  · rename_i j' h'
    cases h
    exact k_find_T hP h'
  · split at h
    · rename_i j' h'
      cases h
      exact k_room_T hP h'
    · cases h
end
section
set_option maxRecDepth 100000 in
set_option maxHeartbeats 4000000 in
theorem c_TC_place (l : Launch) (P : ks_P) (hP : ks_ok P) (x : Int32) (a b : ks_M) (o : ks_O) : kc l P y_TC_place b_TC_place 1 (some .int) 0 [.int x] a b o (some (.int (x &&& 15))) a b o := by
  have hn64 := ks_n64 hP
  have hT64 := ks_T64 hP
  refine tk_of hP.2.2.2.2.2 (by decide) rfl (Nat.le_of_ble_eq_true rfl) ?_
  intro p e s m below meth c0 X hlk hr hnm
  refine tk_iload_n X d_TC_place_0 rfl rfl ?_
  refine tk_bipush (v := 15) X d_TC_place_1 (by decide) ?_
  refine tk_iand X d_TC_place_3 ?_
  exact tk_iret X hlk hr d_TC_place_4 (rfl) (fun _ h => h) (Or.inr rfl) (fun _ _ => rfl)

set_option maxRecDepth 100000 in
set_option maxHeartbeats 4000000 in
theorem c_TC_kindOf (l : Launch) (P : ks_P) (hP : ks_ok P) (x : Int32) (a b : ks_M) (o : ks_O) : kc l P y_TC_kindOf b_TC_kindOf 1 (some .int) 0 [.int x] a b o (some (.int (x &&& 15))) a b o := by
  have hn64 := ks_n64 hP
  have hT64 := ks_T64 hP
  refine tk_of hP.2.2.2.2.2 (by decide) rfl (Nat.le_of_ble_eq_true rfl) ?_
  intro p e s m below meth c0 X hlk hr hnm
  refine tk_iload_n X d_TC_kindOf_0 rfl rfl ?_
  refine tk_bipush (v := 15) X d_TC_kindOf_1 (by decide) ?_
  refine tk_iand X d_TC_kindOf_3 ?_
  exact tk_iret X hlk hr d_TC_kindOf_4 (rfl) (fun _ h => h) (Or.inr rfl) (fun _ _ => rfl)

set_option maxRecDepth 100000 in
set_option maxHeartbeats 4000000 in
theorem c_TC_lineOf (l : Launch) (P : ks_P) (hP : ks_ok P) (x : Int32) (a b : ks_M) (o : ks_O) : kc l P y_TC_lineOf b_TC_lineOf 1 (some .int) 0 [.int x] a b o (some (.int (q_line x))) a b o := by
  have hn64 := ks_n64 hP
  have hT64 := ks_T64 hP
  refine tk_of hP.2.2.2.2.2 (by decide) rfl (Nat.le_of_ble_eq_true rfl) ?_
  intro p e s m below meth c0 X hlk hr hnm
  refine tk_iload_n X d_TC_lineOf_0 rfl rfl ?_
  refine tk_bipush (v := 63) X d_TC_lineOf_1 (by decide) ?_
  refine tk_iand X d_TC_lineOf_3 ?_
  refine tk_iconst (v := 1) X d_TC_lineOf_4 (by decide) ?_
  refine tk_ishr X d_TC_lineOf_5 ?_
  exact tk_iret X hlk hr d_TC_lineOf_6 (rfl) (fun _ h => h) (Or.inr rfl) (fun _ _ => rfl)

set_option maxRecDepth 100000 in
set_option maxHeartbeats 4000000 in
theorem c_TC_registerA (l : Launch) (P : ks_P) (hP : ks_ok P) (x : Int32) (a b : ks_M) (o : ks_O) : kc l P y_TC_registerA b_TC_registerA 1 (some .int) 0 [.int x] a b o (some (.int (q_A x))) a b o := by
  have hn64 := ks_n64 hP
  have hT64 := ks_T64 hP
  refine tk_of hP.2.2.2.2.2 (by decide) rfl (Nat.le_of_ble_eq_true rfl) ?_
  intro p e s m below meth c0 X hlk hr hnm
  refine tk_iload_n X d_TC_registerA_0 rfl rfl ?_
  refine tk_iconst (v := 4) X d_TC_registerA_1 (by decide) ?_
  refine tk_ishr X d_TC_registerA_2 ?_
  refine tk_bipush (v := 7) X d_TC_registerA_3 (by decide) ?_
  refine tk_iand X d_TC_registerA_5 ?_
  exact tk_iret X hlk hr d_TC_registerA_6 (rfl) (fun _ h => h) (Or.inr rfl) (fun _ _ => rfl)

set_option maxRecDepth 100000 in
set_option maxHeartbeats 4000000 in
theorem c_TC_registerB (l : Launch) (P : ks_P) (hP : ks_ok P) (x : Int32) (a b : ks_M) (o : ks_O) : kc l P y_TC_registerB b_TC_registerB 1 (some .int) 0 [.int x] a b o (some (.int (q_B x))) a b o := by
  have hn64 := ks_n64 hP
  have hT64 := ks_T64 hP
  refine tk_of hP.2.2.2.2.2 (by decide) rfl (Nat.le_of_ble_eq_true rfl) ?_
  intro p e s m below meth c0 X hlk hr hnm
  refine tk_iload_n X d_TC_registerB_0 rfl rfl ?_
  refine tk_bipush (v := 7) X d_TC_registerB_1 (by decide) ?_
  refine tk_ishr X d_TC_registerB_3 ?_
  refine tk_bipush (v := 7) X d_TC_registerB_4 (by decide) ?_
  refine tk_iand X d_TC_registerB_6 ?_
  exact tk_iret X hlk hr d_TC_registerB_7 (rfl) (fun _ h => h) (Or.inr rfl) (fun _ _ => rfl)

set_option maxRecDepth 100000 in
set_option maxHeartbeats 4000000 in
theorem c_TC_immediateOf (l : Launch) (P : ks_P) (hP : ks_ok P) (x : Int32) (a b : ks_M) (o : ks_O) : kc l P y_TC_immediateOf b_TC_immediateOf 1 (some .int) 0 [.int x] a b o (some (.int (q_imm x))) a b o := by
  have hn64 := ks_n64 hP
  have hT64 := ks_T64 hP
  refine tk_of hP.2.2.2.2.2 (by decide) rfl (Nat.le_of_ble_eq_true rfl) ?_
  intro p e s m below meth c0 X hlk hr hnm
  refine tk_iload_n X d_TC_immediateOf_0 rfl rfl ?_
  refine tk_bipush (v := 11) X d_TC_immediateOf_1 (by decide) ?_
  refine tk_ishr X d_TC_immediateOf_3 ?_
  exact tk_iret X hlk hr d_TC_immediateOf_4 (rfl) (fun _ h => h) (Or.inr rfl) (fun _ _ => rfl)

set_option maxRecDepth 100000 in
set_option maxHeartbeats 4000000 in
theorem c_TC_registerC (l : Launch) (P : ks_P) (hP : ks_ok P) (x : Int32) (a b : ks_M) (o : ks_O) : kc l P y_TC_registerC b_TC_registerC 1 (some .int) 1 [.int x] a b o (some (.int (q_C x))) a b o := by
  have hn64 := ks_n64 hP
  have hT64 := ks_T64 hP
  refine tk_of hP.2.2.2.2.2 (by decide) rfl (Nat.le_of_ble_eq_true rfl) ?_
  intro p e s m below meth c0 X hlk hr hnm
  refine tk_iload_n X d_TC_registerC_0 rfl rfl ?_
  refine tk_callS X (c_TC_immediateOf l P hP x a b o) (ks_site (n := 1) mc_TC_immediateOf mi_TC (by decide +kernel) (by decide) (by decide)) m_TC_140 ms_TC_immediateOf rfl (Nat.le_of_ble_eq_true rfl) ⟨Nat.le_of_ble_eq_true rfl, Nat.le_of_ble_eq_true rfl⟩ rfl d_TC_registerC_1 ?_
  refine tk_bipush (v := 7) X d_TC_registerC_4 (by decide) ?_
  refine tk_iand X d_TC_registerC_6 ?_
  exact tk_iret X hlk hr d_TC_registerC_7 (rfl) (fun _ h => h) (Or.inr rfl) (fun _ _ => rfl)

set_option maxRecDepth 100000 in
set_option maxHeartbeats 4000000 in
theorem c_Way_get (l : Launch) (P : ks_P) (hP : ks_ok P) (c j : Nat) (hc : c < ks_n P) (hj : j < ks_T P) (x : Int32) (a b : ks_M) (o : ks_O) : kc l P y_Way_get b_Way_get 2 (some .int) 0 [.ref (tk_ad (ks_G P) (7, c, j)), .int x] a b o (some (.int (k_wget a c j x))) a b o := by
  have hn64 := ks_n64 hP
  have hT64 := ks_T64 hP
  refine tk_of hP.2.2.2.2.2 (by decide) rfl (Nat.le_of_ble_eq_true rfl) ?_
  intro p e s m below meth c0 X hlk hr hnm
  refine tk_iload_n X d_Way_get_0 rfl rfl ?_
  refine tk_iconst (v := 1) X d_Way_get_1 (by decide) ?_
  refine tk_iand X d_Way_get_2 ?_
  refine tk_if_ne (tgt := 13) X d_Way_get_3 (by decide) (fun h1 => ?_) (fun h1 => ?_)
  · skip
    refine tk_aload_n X d_Way_get_13 rfl rfl ?_
    refine tk_get X (k := (7, c, j)) (dm := ks_dm P) (ks_d7 hc hj) rfl hc_Way hi_Way 4 (by decide) m_Way_13 (v := .int _) rfl d_Way_get_14 ?_
    exact tk_iret X hlk hr d_Way_get_17 (by rw [k_wget, if_neg h1]) (fun _ h => h) (Or.inr rfl) (fun _ _ => rfl)
  · skip
    refine tk_aload_n X d_Way_get_6 rfl rfl ?_
    refine tk_get X (k := (7, c, j)) (dm := ks_dm P) (ks_d7 hc hj) rfl hc_Way hi_Way 3 (by decide) m_Way_7 (v := .int _) rfl d_Way_get_7 ?_
    refine tk_goto (tgt := 17) X d_Way_get_10 (by decide) ?_
    exact tk_iret X hlk hr d_Way_get_17 (by rw [k_wget, if_pos h1]) (fun _ h => h) (Or.inr rfl) (fun _ _ => rfl)

set_option maxRecDepth 100000 in
set_option maxHeartbeats 4000000 in
theorem c_Way_put (l : Launch) (P : ks_P) (hP : ks_ok P) (c j : Nat) (hc : c < ks_n P) (hj : j < ks_T P) (x v : Int32) (a b : ks_M) (o : ks_O) : kc l P y_Way_put b_Way_put 3 none 0 [.ref (tk_ad (ks_G P) (7, c, j)), .int x, .int v] a b o (none) (k_wput a c j x v) b o := by
  have hn64 := ks_n64 hP
  have hT64 := ks_T64 hP
  refine tk_of hP.2.2.2.2.2 (by decide) rfl (Nat.le_of_ble_eq_true rfl) ?_
  intro p e s m below meth c0 X hlk hr hnm
  refine tk_iload_n X d_Way_put_0 rfl rfl ?_
  refine tk_iconst (v := 1) X d_Way_put_1 (by decide) ?_
  refine tk_iand X d_Way_put_2 ?_
  refine tk_if_ne (tgt := 14) X d_Way_put_3 (by decide) (fun h1 => ?_) (fun h1 => ?_)
  · skip
    refine tk_aload_n X d_Way_put_14 rfl rfl ?_
    refine tk_iload_n X d_Way_put_15 rfl rfl ?_
    refine kw_put X (k := (7, c, j)) (ks_d7 hc hj) rfl hc_Way hi_Way t_Way t_Way_ok n_Way 4 (by decide) rfl m_Way_13 rfl rfl rfl d_Way_put_16 ?_
    exact tk_vret X hlk hr d_Way_put_19 rfl (fun _ h => h) (Or.inr rfl) (kw_st (by rw [k_wput, if_neg h1]) rfl rfl)
  · skip
    refine tk_aload_n X d_Way_put_6 rfl rfl ?_
    refine tk_iload_n X d_Way_put_7 rfl rfl ?_
    refine kw_put X (k := (7, c, j)) (ks_d7 hc hj) rfl hc_Way hi_Way t_Way t_Way_ok n_Way 3 (by decide) rfl m_Way_7 rfl rfl rfl d_Way_put_8 ?_
    refine tk_goto (tgt := 19) X d_Way_put_11 (by decide) ?_
    exact tk_vret X hlk hr d_Way_put_19 rfl (fun _ h => h) (Or.inr rfl) (kw_st (by rw [k_wput, if_pos h1]) rfl rfl)

set_option maxRecDepth 100000 in
set_option maxHeartbeats 4000000 in
theorem c_Store_get (l : Launch) (P : ks_P) (hP : ks_ok P) (x : Int32) (a b : ks_M) (o : ks_O) : kc l P y_Store_get b_Store_get 2 (some .int) 0 [.ref (tk_ad (ks_G P) (1, 0, 0)), .int x] a b o (some (.int (k_get a x))) a b o := by
  have hn64 := ks_n64 hP
  have hT64 := ks_T64 hP
  refine tk_of hP.2.2.2.2.2 (by decide) rfl (Nat.le_of_ble_eq_true rfl) ?_
  intro p e s m below meth c0 X hlk hr hnm
  refine tk_aload_n X d_Store_get_0 rfl rfl ?_
  refine tk_get X (k := (1, 0, 0)) (dm := ks_dm P) (ks_d0 (by decide)) rfl hc_Store hi_Store 0 (by decide) m_Store_9 (v := .ref (tk_ad (ks_G P) (2, 0, 0))) rfl d_Store_get_1 ?_
  refine tk_iload_n X d_Store_get_4 rfl rfl ?_
  refine tk_bipush (v := 63) X d_Store_get_5 (by decide) ?_
  refine tk_iand X d_Store_get_7 ?_
  refine kw_iald X (k := (2, 0, 0)) (ks_d0 (by decide)) rfl (by decide) (q_m63 x) (q_l63 x) (v := _) rfl d_Store_get_8 ?_
  exact tk_iret X hlk hr d_Store_get_9 (rfl) (fun _ h => h) (Or.inr rfl) (fun _ _ => rfl)

set_option maxRecDepth 100000 in
set_option maxHeartbeats 4000000 in
theorem c_Store_put (l : Launch) (P : ks_P) (hP : ks_ok P) (x v : Int32) (a b : ks_M) (o : ks_O) : kc l P y_Store_put b_Store_put 3 none 0 [.ref (tk_ad (ks_G P) (1, 0, 0)), .int x, .int v] a b o (none) (k_put a x v) b o := by
  have hn64 := ks_n64 hP
  have hT64 := ks_T64 hP
  refine tk_of hP.2.2.2.2.2 (by decide) rfl (Nat.le_of_ble_eq_true rfl) ?_
  intro p e s m below meth c0 X hlk hr hnm
  refine tk_aload_n X d_Store_put_0 rfl rfl ?_
  refine tk_get X (k := (1, 0, 0)) (dm := ks_dm P) (ks_d0 (by decide)) rfl hc_Store hi_Store 0 (by decide) m_Store_9 (v := .ref (tk_ad (ks_G P) (2, 0, 0))) rfl d_Store_put_1 ?_
  refine tk_iload_n X d_Store_put_4 rfl rfl ?_
  refine tk_bipush (v := 63) X d_Store_put_5 (by decide) ?_
  refine tk_iand X d_Store_put_7 ?_
  refine tk_iload_n X d_Store_put_8 rfl rfl ?_
  refine kw_iast X (k := (2, 0, 0)) (ks_d0 (by decide)) rfl (by decide) (q_m63 x) (q_l63 x) rfl d_Store_put_9 ?_
  exact tk_vret X hlk hr d_Store_put_10 rfl (fun _ h => h) (Or.inr rfl) (fun _ _ => rfl)

set_option maxRecDepth 100000 in
set_option maxHeartbeats 4000000 in
theorem c_Store_keep (l : Launch) (P : ks_P) (hP : ks_ok P) (c j : Nat) (hc : c < ks_n P) (hj : j < ks_T P) (a b : ks_M) (o : ks_O) : kc l P y_Store_keep b_Store_keep 2 none 1 [.ref (tk_ad (ks_G P) (1, 0, 0)), .ref (tk_ad (ks_G P) (7, c, j))] a b o (none) (k_keep a c j) b o := by
  have hn64 := ks_n64 hP
  have hT64 := ks_T64 hP
  refine tk_of hP.2.2.2.2.2 (by decide) rfl (Nat.le_of_ble_eq_true rfl) ?_
  intro p e s m below meth c0 X hlk hr hnm
  refine tk_aload_n X d_Store_keep_0 rfl rfl ?_
  refine tk_iconst (v := 2) X d_Store_keep_1 (by decide) ?_
  refine tk_aload_n X d_Store_keep_2 rfl rfl ?_
  refine tk_getN X (k := (7, c, j)) (dm := ks_dm P) (ks_d7 hc hj) rfl hc_Way hi_Way 1 (by decide) n_Store_15 (v := .int _) rfl d_Store_keep_3 ?_
  refine tk_imul X d_Store_keep_6 ?_
  refine tk_aload_n X d_Store_keep_7 rfl rfl ?_
  refine tk_getN X (k := (7, c, j)) (dm := ks_dm P) (ks_d7 hc hj) rfl hc_Way hi_Way 3 (by decide) n_Store_21 (v := .int _) rfl d_Store_keep_8 ?_
  refine tk_callV X (kb := (1, 0, 0)) (ks_d0 (by decide)) rfl hc_Store (c_Store_put l P hP _ _ a b o) (ks_site (n := 2) mc_Store_put mi_Store (by decide +kernel) (by decide) (by decide)) m_Store_24 ms_Store_put mv_Store_put rfl (Nat.le_of_ble_eq_true rfl) ⟨Nat.le_of_ble_eq_true rfl, Nat.le_of_ble_eq_true rfl⟩ rfl d_Store_keep_11 ?_
  refine tk_aload_n X d_Store_keep_14 rfl rfl ?_
  refine tk_iconst (v := 2) X d_Store_keep_15 (by decide) ?_
  refine tk_aload_n X d_Store_keep_16 rfl rfl ?_
  refine tk_getN X (k := (7, c, j)) (dm := ks_dm P) (ks_d7 hc hj) rfl hc_Way hi_Way 1 (by decide) n_Store_15 (v := .int _) rfl d_Store_keep_17 ?_
  refine tk_imul X d_Store_keep_20 ?_
  refine tk_iconst (v := 1) X d_Store_keep_21 (by decide) ?_
  refine tk_iadd X d_Store_keep_22 ?_
  refine tk_aload_n X d_Store_keep_23 rfl rfl ?_
  refine tk_getN X (k := (7, c, j)) (dm := ks_dm P) (ks_d7 hc hj) rfl hc_Way hi_Way 4 (by decide) n_Store_28 (v := .int _) rfl d_Store_keep_24 ?_
  refine tk_callV X (kb := (1, 0, 0)) (ks_d0 (by decide)) rfl hc_Store (c_Store_put l P hP _ _ (k_keep1 a c j) b o) (ks_site (n := 2) mc_Store_put mi_Store (by decide +kernel) (by decide) (by decide)) m_Store_24 ms_Store_put mv_Store_put rfl (Nat.le_of_ble_eq_true rfl) ⟨Nat.le_of_ble_eq_true rfl, Nat.le_of_ble_eq_true rfl⟩ rfl d_Store_keep_27 ?_
  exact tk_vret X hlk hr d_Store_keep_30 rfl (fun _ h => h) (Or.inr rfl) (fun _ _ => rfl)

set_option maxRecDepth 100000 in
set_option maxHeartbeats 4000000 in
theorem c_Store_fill (l : Launch) (P : ks_P) (hP : ks_ok P) (c j : Nat) (hc : c < ks_n P) (hj : j < ks_T P) (x : Int32) (a b : ks_M) (o : ks_O) : kc l P y_Store_fill b_Store_fill 3 none 1 [.ref (tk_ad (ks_G P) (1, 0, 0)), .ref (tk_ad (ks_G P) (7, c, j)), .int x] a b o (none) (k_fill a c j x) b o := by
  have hn64 := ks_n64 hP
  have hT64 := ks_T64 hP
  refine tk_of hP.2.2.2.2.2 (by decide) rfl (Nat.le_of_ble_eq_true rfl) ?_
  intro p e s m below meth c0 X hlk hr hnm
  refine tk_aload_n X d_Store_fill_0 rfl rfl ?_
  refine tk_iload_n X d_Store_fill_1 rfl rfl ?_
  refine kw_putN X (k := (7, c, j)) (ks_d7 hc hj) rfl hc_Way hi_Way t_Way t_Way_ok n_Way 1 (by decide) rfl n_Store_15 rfl rfl rfl d_Store_fill_2 ?_
  refine tk_aload_n X d_Store_fill_5 rfl rfl ?_
  refine tk_aload_n X d_Store_fill_6 rfl rfl ?_
  refine tk_iconst (v := 2) X d_Store_fill_7 (by decide) ?_
  refine tk_iload_n X d_Store_fill_8 rfl rfl ?_
  refine tk_imul X d_Store_fill_9 ?_
  refine tk_callV X (kb := (1, 0, 0)) (ks_d0 (by decide)) rfl hc_Store (c_Store_get l P hP _ (k_fill1 a c j x) b o) (ks_site (n := 1) mc_Store_get mi_Store (by decide +kernel) (by decide) (by decide)) m_Store_31 ms_Store_get mv_Store_get rfl (Nat.le_of_ble_eq_true rfl) ⟨Nat.le_of_ble_eq_true rfl, Nat.le_of_ble_eq_true rfl⟩ rfl d_Store_fill_10 ?_
  refine kw_putN X (k := (7, c, j)) (ks_d7 hc hj) rfl hc_Way hi_Way t_Way t_Way_ok n_Way 3 (by decide) rfl n_Store_21 rfl rfl rfl d_Store_fill_13 ?_
  refine tk_aload_n X d_Store_fill_16 rfl rfl ?_
  refine tk_aload_n X d_Store_fill_17 rfl rfl ?_
  refine tk_iconst (v := 2) X d_Store_fill_18 (by decide) ?_
  refine tk_iload_n X d_Store_fill_19 rfl rfl ?_
  refine tk_imul X d_Store_fill_20 ?_
  refine tk_iconst (v := 1) X d_Store_fill_21 (by decide) ?_
  refine tk_iadd X d_Store_fill_22 ?_
  refine tk_callV X (kb := (1, 0, 0)) (ks_d0 (by decide)) rfl hc_Store (c_Store_get l P hP _ (k_fill2 a c j x) b o) (ks_site (n := 1) mc_Store_get mi_Store (by decide +kernel) (by decide) (by decide)) m_Store_31 ms_Store_get mv_Store_get rfl (Nat.le_of_ble_eq_true rfl) ⟨Nat.le_of_ble_eq_true rfl, Nat.le_of_ble_eq_true rfl⟩ rfl d_Store_fill_23 ?_
  refine kw_putN X (k := (7, c, j)) (ks_d7 hc hj) rfl hc_Way hi_Way t_Way t_Way_ok n_Way 4 (by decide) rfl n_Store_28 rfl rfl rfl d_Store_fill_26 ?_
  exact tk_vret X hlk hr d_Store_fill_29 rfl (fun _ h => h) (Or.inr rfl) (fun _ _ => rfl)
end
section
set_option maxRecDepth 100000 in
set_option maxHeartbeats 4000000 in
theorem c_Cache_firstOfSet (l : Launch) (P : ks_P) (hP : ks_ok P) (c x : Nat) (hc : c < ks_n P) (hx : x < 32) (a b : ks_M) (o : ks_O) : kc l P y_Cache_firstOfSet b_Cache_firstOfSet 2 (some .int) 0 [.ref (tk_ad (ks_G P) (5, c, 0)), .int (nI x)] a b o (some (.int (nI (k_first (ks_S P) (ks_W P) x)))) a b o := by
  have hn64 := ks_n64 hP
  have hT64 := ks_T64 hP
  refine tk_of hP.2.2.2.2.2 (by decide) rfl (Nat.le_of_ble_eq_true rfl) ?_
  intro p e s m below meth c0 X hlk hr hnm
  refine tk_iload_n X d_Cache_firstOfSet_0 rfl rfl ?_
  refine tk_aload_n X d_Cache_firstOfSet_1 rfl rfl ?_
  refine tk_get X (k := (5, c, 0)) (dm := ks_dm P) (ks_d5 hc) rfl hc_Cache hi_Cache 0 (by decide) m_Cache_9 (v := .int _) rfl d_Cache_firstOfSet_2 ?_
  refine tk_iconst (v := 1) X d_Cache_firstOfSet_5 (by decide) ?_
  refine tk_isub X d_Cache_firstOfSet_6 ?_
  refine tk_iand X d_Cache_firstOfSet_7 ?_
  refine tk_aload_n X d_Cache_firstOfSet_8 rfl rfl ?_
  refine tk_get X (k := (5, c, 0)) (dm := ks_dm P) (ks_d5 hc) rfl hc_Cache hi_Cache 1 (by decide) m_Cache_15 (v := .int _) rfl d_Cache_firstOfSet_9 ?_
  refine tk_imul X d_Cache_firstOfSet_12 ?_
  exact tk_iret X hlk hr d_Cache_firstOfSet_13 (by rw [q_first hP hx]) (fun _ h => h) (Or.inr rfl) (fun _ _ => rfl)

section LP
variable {p : Program} {l : Launch} {e : Env} {R : Room} {s : State} {m : MethodId} {args : Array Value} {below : List Frame} {meth : Method} {c0 : Code} {P : ks_P} {cells slots : Nat} {Q : State → Prop}
set_option maxRecDepth 100000 in
set_option maxHeartbeats 4000000 in
theorem lp_Cache_dropMarks (X : tk_X p m c0 s args (ks_G P) R_Cache b_Cache_dropMarks 2 WS) (hP : ks_ok P) {c : Nat} (hc : c < ks_n P) (a b : ks_M) (o : ks_O) (kend : tk_go p l e R s m args below meth c0 (ks_G P) (ks_dm P) 2 cells slots Q (ks_sl P (k_dm a c (ks_T P)) b o) 27 [some (.ref (tk_ad (ks_G P) (5, c, 0))), some (.int (nI (ks_T P)))] []) : ∀ (k j : Nat), j + k = ks_T P → tk_go p l e R s m args below meth c0 (ks_G P) (ks_dm P) 2 cells slots Q (ks_sl P (k_dm a c j) b o) 2 [some (.ref (tk_ad (ks_G P) (5, c, 0))), some (.int (nI j))] [] := by
  have hn64 := ks_n64 hP
  have hT64 := ks_T64 hP
  intro k
  induction k with
  | zero =>
    intro j hj
    have hjT : j = ks_T P := by omega
    subst hjT
    refine tk_iload_n X d_Cache_dropMarks_2 rfl rfl ?_
    refine tk_aload_n X d_Cache_dropMarks_3 rfl rfl ?_
    refine tk_get X (k := (5, c, 0)) (dm := ks_dm P) (ks_d5 hc) rfl hc_Cache hi_Cache 2 (by decide) m_Cache_20 (v := .ref (tk_ad (ks_G P) (6, c, 0))) rfl d_Cache_dropMarks_4 ?_
    refine tk_alen X (k := (6, c, 0)) (dm := ks_dm P) (ks_d6 hc) rfl rfl (v := nI _) rfl d_Cache_dropMarks_7 ?_
    refine tk_icmp_ge (tgt := 27) X d_Cache_dropMarks_8 (by decide) (fun _ => ?_) (fun h => absurd (nI_le (Nat.le_refl _) (by omega)) h)
    exact kend
  | succ k ih =>
    intro j hj
    have hj2 : j < ks_T P := by omega
    refine tk_iload_n X d_Cache_dropMarks_2 rfl rfl ?_
    refine tk_aload_n X d_Cache_dropMarks_3 rfl rfl ?_
    refine tk_get X (k := (5, c, 0)) (dm := ks_dm P) (ks_d5 hc) rfl hc_Cache hi_Cache 2 (by decide) m_Cache_20 (v := .ref (tk_ad (ks_G P) (6, c, 0))) rfl d_Cache_dropMarks_4 ?_
    refine tk_alen X (k := (6, c, 0)) (dm := ks_dm P) (ks_d6 hc) rfl rfl (v := nI _) rfl d_Cache_dropMarks_7 ?_
    refine tk_icmp_ge (tgt := 27) X d_Cache_dropMarks_8 (by decide) (fun h => absurd h (nI_ge hj2 (by omega))) (fun _ => ?_)
    refine tk_aload_n X d_Cache_dropMarks_11 rfl rfl ?_
    refine tk_get X (k := (5, c, 0)) (dm := ks_dm P) (ks_d5 hc) rfl hc_Cache hi_Cache 2 (by decide) m_Cache_20 (v := .ref (tk_ad (ks_G P) (6, c, 0))) rfl d_Cache_dropMarks_12 ?_
    refine tk_iload_n X d_Cache_dropMarks_15 rfl rfl ?_
    refine kw_way X hc (i := j) rfl hj2 hT64 d_Cache_dropMarks_16 ?_
    refine tk_iconst (v := 0) X d_Cache_dropMarks_17 (by decide) ?_
    refine kw_putN X (k := (7, c, j)) (ks_d7 hc hj2) rfl hc_Way hi_Way t_Way t_Way_ok n_Way 2 (by decide) rfl n_Cache_35 rfl rfl rfl d_Cache_dropMarks_18 ?_
    refine tk_iinc (v := nI (j + 1)) X d_Cache_dropMarks_21 rfl (q_inc j) (by decide) rfl ?_
    refine tk_goto (tgt := 2) X d_Cache_dropMarks_24 (by decide) ?_
    exact ih (j + 1) (by omega)
end LP

set_option maxRecDepth 100000 in
set_option maxHeartbeats 4000000 in
theorem c_Cache_dropMarks (l : Launch) (P : ks_P) (hP : ks_ok P) (c : Nat) (hc : c < ks_n P) (a b : ks_M) (o : ks_O) : kc l P y_Cache_dropMarks b_Cache_dropMarks 2 none 0 [.ref (tk_ad (ks_G P) (5, c, 0))] a b o (none) (k_dm a c (ks_T P)) b o := by
  have hn64 := ks_n64 hP
  have hT64 := ks_T64 hP
  refine tk_of hP.2.2.2.2.2 (by decide) rfl (Nat.le_of_ble_eq_true rfl) ?_
  intro p e s m below meth c0 X hlk hr hnm
  refine tk_iconst (v := 0) X d_Cache_dropMarks_0 (by decide) ?_
  refine tk_istore_n X d_Cache_dropMarks_1 rfl (by decide) rfl ?_
  refine lp_Cache_dropMarks X hP hc a b o ?_ (ks_T P) 0 (by omega)
  exact tk_vret X hlk hr d_Cache_dropMarks_27 rfl (fun _ h => h) (Or.inr rfl) (fun _ _ => rfl)

section LP
variable {p : Program} {l : Launch} {e : Env} {R : Room} {s : State} {m : MethodId} {args : Array Value} {below : List Frame} {meth : Method} {c0 : Code} {P : ks_P} {cells slots : Nat} {Q : State → Prop}
set_option maxRecDepth 100000 in
set_option maxHeartbeats 4000000 in
theorem lp_Cache_dropWritten (X : tk_X p m c0 s args (ks_G P) R_Cache b_Cache_dropWritten 2 WS) (hP : ks_ok P) {c : Nat} (hc : c < ks_n P) (a b : ks_M) (o : ks_O) (kend : tk_go p l e R s m args below meth c0 (ks_G P) (ks_dm P) 2 cells slots Q (ks_sl P (k_dw a c (ks_T P)) b o) 41 [some (.ref (tk_ad (ks_G P) (5, c, 0))), some (.int (nI (ks_T P)))] []) : ∀ (k j : Nat), j + k = ks_T P → tk_go p l e R s m args below meth c0 (ks_G P) (ks_dm P) 2 cells slots Q (ks_sl P (k_dw a c j) b o) 2 [some (.ref (tk_ad (ks_G P) (5, c, 0))), some (.int (nI j))] [] := by
  have hn64 := ks_n64 hP
  have hT64 := ks_T64 hP
  intro k
  induction k with
  | zero =>
    intro j hj
    have hjT : j = ks_T P := by omega
    subst hjT
    refine tk_iload_n X d_Cache_dropWritten_2 rfl rfl ?_
    refine tk_aload_n X d_Cache_dropWritten_3 rfl rfl ?_
    refine tk_get X (k := (5, c, 0)) (dm := ks_dm P) (ks_d5 hc) rfl hc_Cache hi_Cache 2 (by decide) m_Cache_20 (v := .ref (tk_ad (ks_G P) (6, c, 0))) rfl d_Cache_dropWritten_4 ?_
    refine tk_alen X (k := (6, c, 0)) (dm := ks_dm P) (ks_d6 hc) rfl rfl (v := nI _) rfl d_Cache_dropWritten_7 ?_
    refine tk_icmp_ge (tgt := 41) X d_Cache_dropWritten_8 (by decide) (fun _ => ?_) (fun h => absurd (nI_le (Nat.le_refl _) (by omega)) h)
    exact kend
  | succ k ih =>
    intro j hj
    have hj2 : j < ks_T P := by omega
    refine tk_iload_n X d_Cache_dropWritten_2 rfl rfl ?_
    refine tk_aload_n X d_Cache_dropWritten_3 rfl rfl ?_
    refine tk_get X (k := (5, c, 0)) (dm := ks_dm P) (ks_d5 hc) rfl hc_Cache hi_Cache 2 (by decide) m_Cache_20 (v := .ref (tk_ad (ks_G P) (6, c, 0))) rfl d_Cache_dropWritten_4 ?_
    refine tk_alen X (k := (6, c, 0)) (dm := ks_dm P) (ks_d6 hc) rfl rfl (v := nI _) rfl d_Cache_dropWritten_7 ?_
    refine tk_icmp_ge (tgt := 41) X d_Cache_dropWritten_8 (by decide) (fun h => absurd h (nI_ge hj2 (by omega))) (fun _ => ?_)
    refine tk_aload_n X d_Cache_dropWritten_11 rfl rfl ?_
    refine tk_get X (k := (5, c, 0)) (dm := ks_dm P) (ks_d5 hc) rfl hc_Cache hi_Cache 2 (by decide) m_Cache_20 (v := .ref (tk_ad (ks_G P) (6, c, 0))) rfl d_Cache_dropWritten_12 ?_
    refine tk_iload_n X d_Cache_dropWritten_15 rfl rfl ?_
    refine kw_way X hc (i := j) rfl hj2 hT64 d_Cache_dropWritten_16 ?_
    refine tk_getN X (k := (7, c, j)) (dm := ks_dm P) (ks_d7 hc hj2) rfl hc_Way hi_Way 2 (by decide) n_Cache_35 (v := .int _) rfl d_Cache_dropWritten_17 ?_
    refine tk_iconst (v := 2) X d_Cache_dropWritten_20 (by decide) ?_
    refine tk_iand X d_Cache_dropWritten_21 ?_
    refine tk_if_eq (tgt := 35) X d_Cache_dropWritten_22 (by decide) (fun h1 => ?_) (fun h1 => ?_)
    · skip
      refine tk_iinc (v := nI (j + 1)) X d_Cache_dropWritten_35 rfl (q_inc j) (by decide) rfl ?_
      refine tk_goto (tgt := 2) X d_Cache_dropWritten_38 (by decide) ?_
      have ih2 := ih (j + 1) (by omega)
      rw [show k_dw a c (j + 1) = _ from by rw [k_dw, if_neg (not_not_intro h1)]] at ih2
      exact ih2
    · skip
      refine tk_aload_n X d_Cache_dropWritten_25 rfl rfl ?_
      refine tk_get X (k := (5, c, 0)) (dm := ks_dm P) (ks_d5 hc) rfl hc_Cache hi_Cache 2 (by decide) m_Cache_20 (v := .ref (tk_ad (ks_G P) (6, c, 0))) rfl d_Cache_dropWritten_26 ?_
      refine tk_iload_n X d_Cache_dropWritten_29 rfl rfl ?_
      refine kw_way X hc (i := j) rfl hj2 hT64 d_Cache_dropWritten_30 ?_
      refine tk_iconst (v := 0) X d_Cache_dropWritten_31 (by decide) ?_
      refine kw_putN X (k := (7, c, j)) (ks_d7 hc hj2) rfl hc_Way hi_Way t_Way t_Way_ok n_Way 0 (by decide) rfl n_Cache_29 rfl rfl rfl d_Cache_dropWritten_32 ?_
      refine tk_iinc (v := nI (j + 1)) X d_Cache_dropWritten_35 rfl (q_inc j) (by decide) rfl ?_
      refine tk_goto (tgt := 2) X d_Cache_dropWritten_38 (by decide) ?_
      have ih2 := ih (j + 1) (by omega)
      rw [show k_dw a c (j + 1) = _ from by rw [k_dw, if_pos h1]] at ih2
      exact ih2
end LP

set_option maxRecDepth 100000 in
set_option maxHeartbeats 4000000 in
theorem c_Cache_dropWritten (l : Launch) (P : ks_P) (hP : ks_ok P) (c : Nat) (hc : c < ks_n P) (a b : ks_M) (o : ks_O) : kc l P y_Cache_dropWritten b_Cache_dropWritten 2 none 0 [.ref (tk_ad (ks_G P) (5, c, 0))] a b o (none) (k_dw a c (ks_T P)) b o := by
  have hn64 := ks_n64 hP
  have hT64 := ks_T64 hP
  refine tk_of hP.2.2.2.2.2 (by decide) rfl (Nat.le_of_ble_eq_true rfl) ?_
  intro p e s m below meth c0 X hlk hr hnm
  refine tk_iconst (v := 0) X d_Cache_dropWritten_0 (by decide) ?_
  refine tk_istore_n X d_Cache_dropWritten_1 rfl (by decide) rfl ?_
  refine lp_Cache_dropWritten X hP hc a b o ?_ (ks_T P) 0 (by omega)
  exact tk_vret X hlk hr d_Cache_dropWritten_41 rfl (fun _ h => h) (Or.inr rfl) (fun _ _ => rfl)

section LP
variable {p : Program} {l : Launch} {e : Env} {R : Room} {s : State} {m : MethodId} {args : Array Value} {below : List Frame} {meth : Method} {c0 : Code} {P : ks_P} {cells slots : Nat} {Q : State → Prop}
set_option maxRecDepth 100000 in
set_option maxHeartbeats 4000000 in
theorem lp_Cache_find (X : tk_X p m c0 s args (ks_G P) R_Cache b_Cache_find 4 WS) (hP : ks_ok P) {c x F : Nat} (hc : c < ks_n P) (hF : F + ks_W P ≤ ks_T P) (a b : ks_M) (o : ks_O) (k1 : ∀ j, j < ks_T P → k_find a c x (ks_W P) F = some j → tk_go p l e R s m args below meth c0 (ks_G P) (ks_dm P) 4 cells slots Q (ks_sl P a b o) 49 [some (.ref (tk_ad (ks_G P) (5, c, 0))), some (.int (nI x)), some (.int (nI F)), some (.int (nI j))] [.ref (tk_ad (ks_G P) (7, c, j))]) (k0 : k_find a c x (ks_W P) F = none → tk_go p l e R s m args below meth c0 (ks_G P) (ks_dm P) 4 cells slots Q (ks_sl P a b o) 57 [some (.ref (tk_ad (ks_G P) (5, c, 0))), some (.int (nI x)), some (.int (nI F)), some (.int (nI (F + ks_W P)))] [.null]) : ∀ (k j : Nat), j + k = F + ks_W P → k_find a c x (ks_W P) F = k_find a c x k j → tk_go p l e R s m args below meth c0 (ks_G P) (ks_dm P) 4 cells slots Q (ks_sl P a b o) 8 [some (.ref (tk_ad (ks_G P) (5, c, 0))), some (.int (nI x)), some (.int (nI F)), some (.int (nI j))] [] := by
  have hn64 := ks_n64 hP
  have hT64 := ks_T64 hP
  intro k
  induction k with
  | zero =>
    intro j hj hk
    have hjT : j = F + ks_W P := by omega
    subst hjT
    refine tk_iload_n X d_Cache_find_8 rfl rfl ?_
    refine tk_iload_n X d_Cache_find_9 rfl rfl ?_
    refine tk_aload_n X d_Cache_find_10 rfl rfl ?_
    refine tk_get X (k := (5, c, 0)) (dm := ks_dm P) (ks_d5 hc) rfl hc_Cache hi_Cache 1 (by decide) m_Cache_15 (v := .int _) rfl d_Cache_find_11 ?_
    refine tk_iadd X d_Cache_find_14 ?_
    refine tk_icmp_ge (tgt := 56) X d_Cache_find_15 (by decide) (fun _ => ?_) (fun h => absurd (by rw [nI_add]; exact nI_le (by omega) (by omega)) h)
    refine tk_null X d_Cache_find_56 ?_
    exact k0 hk
  | succ k ih =>
    intro j hj hk
    have hj2 : j < ks_T P := by omega
    refine tk_iload_n X d_Cache_find_8 rfl rfl ?_
    refine tk_iload_n X d_Cache_find_9 rfl rfl ?_
    refine tk_aload_n X d_Cache_find_10 rfl rfl ?_
    refine tk_get X (k := (5, c, 0)) (dm := ks_dm P) (ks_d5 hc) rfl hc_Cache hi_Cache 1 (by decide) m_Cache_15 (v := .int _) rfl d_Cache_find_11 ?_
    refine tk_iadd X d_Cache_find_14 ?_
    refine tk_icmp_ge (tgt := 56) X d_Cache_find_15 (by decide) (fun h => absurd h (by rw [nI_add]; exact nI_ge (by omega) (by omega))) (fun _ => ?_)
    refine tk_aload_n X d_Cache_find_18 rfl rfl ?_
    refine tk_get X (k := (5, c, 0)) (dm := ks_dm P) (ks_d5 hc) rfl hc_Cache hi_Cache 2 (by decide) m_Cache_20 (v := .ref (tk_ad (ks_G P) (6, c, 0))) rfl d_Cache_find_19 ?_
    refine tk_iload_n X d_Cache_find_22 rfl rfl ?_
    refine kw_way X hc (i := j) rfl hj2 hT64 d_Cache_find_23 ?_
    refine tk_getN X (k := (7, c, j)) (dm := ks_dm P) (ks_d7 hc hj2) rfl hc_Way hi_Way 0 (by decide) n_Cache_29 (v := .int _) rfl d_Cache_find_24 ?_
    refine tk_if_eq (tgt := 50) X d_Cache_find_27 (by decide) (fun h1 => ?_) (fun h1 => ?_)
    · skip
      refine tk_iinc (v := nI (j + 1)) X d_Cache_find_50 rfl (q_inc j) (by decide) rfl ?_
      refine tk_goto (tgt := 8) X d_Cache_find_53 (by decide) ?_
      exact ih (j + 1) (by omega) (hk.trans (by rw [k_find, if_neg (fun q => q.1 h1)]))
    · skip
      refine tk_aload_n X d_Cache_find_30 rfl rfl ?_
      refine tk_get X (k := (5, c, 0)) (dm := ks_dm P) (ks_d5 hc) rfl hc_Cache hi_Cache 2 (by decide) m_Cache_20 (v := .ref (tk_ad (ks_G P) (6, c, 0))) rfl d_Cache_find_31 ?_
      refine tk_iload_n X d_Cache_find_34 rfl rfl ?_
      refine kw_way X hc (i := j) rfl hj2 hT64 d_Cache_find_35 ?_
      refine tk_getN X (k := (7, c, j)) (dm := ks_dm P) (ks_d7 hc hj2) rfl hc_Way hi_Way 1 (by decide) n_Cache_32 (v := .int _) rfl d_Cache_find_36 ?_
      refine tk_iload_n X d_Cache_find_39 rfl rfl ?_
      refine tk_icmp_ne (tgt := 50) X d_Cache_find_40 (by decide) (fun h2 => ?_) (fun h2 => ?_)
      · skip
        refine tk_iinc (v := nI (j + 1)) X d_Cache_find_50 rfl (q_inc j) (by decide) rfl ?_
        refine tk_goto (tgt := 8) X d_Cache_find_53 (by decide) ?_
        exact ih (j + 1) (by omega) (hk.trans (by rw [k_find, if_neg (fun q => h2 q.2)]))
      · skip
        refine tk_aload_n X d_Cache_find_43 rfl rfl ?_
        refine tk_get X (k := (5, c, 0)) (dm := ks_dm P) (ks_d5 hc) rfl hc_Cache hi_Cache 2 (by decide) m_Cache_20 (v := .ref (tk_ad (ks_G P) (6, c, 0))) rfl d_Cache_find_44 ?_
        refine tk_iload_n X d_Cache_find_47 rfl rfl ?_
        refine kw_way X hc (i := j) rfl hj2 hT64 d_Cache_find_48 ?_
        exact k1 j hj2 (hk.trans (by rw [k_find, if_pos ⟨h1, h2⟩]))
end LP

set_option maxRecDepth 100000 in
set_option maxHeartbeats 4000000 in
theorem c_Cache_find (l : Launch) (P : ks_P) (hP : ks_ok P) (c x : Nat) (hc : c < ks_n P) (hx : x < 32) (a b : ks_M) (o : ks_O) : kc l P y_Cache_find b_Cache_find 4 (some (.object "TransactionCores$Way")) 1 [.ref (tk_ad (ks_G P) (5, c, 0)), .int (nI x)] a b o (some (k_ref P c (k_find a c x (ks_W P) (k_first (ks_S P) (ks_W P) x)))) a b o := by
  have hn64 := ks_n64 hP
  have hT64 := ks_T64 hP
  refine tk_of hP.2.2.2.2.2 (by decide) rfl (Nat.le_of_ble_eq_true rfl) ?_
  intro p e s m below meth c0 X hlk hr hnm
  refine tk_aload_n X d_Cache_find_0 rfl rfl ?_
  refine tk_iload_n X d_Cache_find_1 rfl rfl ?_
  refine tk_callV X (kb := (5, c, 0)) (ks_d5 hc) rfl hc_Cache (c_Cache_firstOfSet l P hP c x hc hx a b o) (ks_site (n := 1) mc_Cache_firstOfSet mi_Cache (by decide +kernel) (by decide) (by decide)) m_Cache_25 ms_Cache_firstOfSet mv_Cache_firstOfSet rfl (Nat.le_of_ble_eq_true rfl) ⟨Nat.le_of_ble_eq_true rfl, Nat.le_of_ble_eq_true rfl⟩ rfl d_Cache_find_2 ?_
  refine tk_istore_n X d_Cache_find_5 rfl (by decide) rfl ?_
  refine tk_iload_n X d_Cache_find_6 rfl rfl ?_
  refine tk_istore_n X d_Cache_find_7 rfl (by decide) rfl ?_
  refine lp_Cache_find X hP hc (k_first_le hP x) a b o (fun j hj h => ?_) (fun h => ?_) (ks_W P) _ rfl rfl
  · exact tk_aret X hlk hr (Or.inl ⟨_, rfl⟩) (Or.inr ⟨_, rfl⟩) d_Cache_find_49 (by rw [h]; rfl) (fun _ h => h) (Or.inr rfl) (fun _ _ => rfl)
  · exact tk_aret X hlk hr (Or.inl ⟨_, rfl⟩) (Or.inl rfl) d_Cache_find_57 (by rw [h]; rfl) (fun _ h => h) (Or.inr rfl) (fun _ _ => rfl)

section LP
variable {p : Program} {l : Launch} {e : Env} {R : Room} {s : State} {m : MethodId} {args : Array Value} {below : List Frame} {meth : Method} {c0 : Code} {P : ks_P} {cells slots : Nat} {Q : State → Prop}
set_option maxRecDepth 100000 in
set_option maxHeartbeats 4000000 in
theorem lp_Cache_room (X : tk_X p m c0 s args (ks_G P) R_Cache b_Cache_room 6 WS) (hP : ks_ok P) {c x F : Nat} (hc : c < ks_n P) (hF : F + ks_W P ≤ ks_T P) (a b : ks_M) (o : ks_O) (k1 : ∀ (j : Nat) (v3 : Value), j < ks_T P → k_room a c (ks_W P) F none = some j → tk_go p l e R s m args below meth c0 (ks_G P) (ks_dm P) 6 cells slots Q (ks_sl P a b o) 41 [some (.ref (tk_ad (ks_G P) (5, c, 0))), some (.int (nI x)), some (.int (nI F)), some (v3), some (.int (nI j)), some (.ref (tk_ad (ks_G P) (7, c, j)))] [.ref (tk_ad (ks_G P) (7, c, j))]) (k0 : ∀ (q : Option Nat) (t5 : Option Value), (∀ i, q = some i → i < ks_T P) → k_room a c (ks_W P) F none = q → tk_go p l e R s m args below meth c0 (ks_G P) (ks_dm P) 6 cells slots Q (ks_sl P a b o) 76 [some (.ref (tk_ad (ks_G P) (5, c, 0))), some (.int (nI x)), some (.int (nI F)), some (k_ref P c q), some (.int (nI (F + ks_W P))), t5] [k_ref P c q]) : ∀ (k j : Nat) (q : Option Nat) (t5 : Option Value), (∀ i, q = some i → i < ks_T P) → j + k = F + ks_W P → k_room a c (ks_W P) F none = k_room a c k j q → tk_go p l e R s m args below meth c0 (ks_G P) (ks_dm P) 6 cells slots Q (ks_sl P a b o) 11 [some (.ref (tk_ad (ks_G P) (5, c, 0))), some (.int (nI x)), some (.int (nI F)), some (k_ref P c q), some (.int (nI j)), t5] [] := by
  have hn64 := ks_n64 hP
  have hT64 := ks_T64 hP
  intro k
  induction k with
  | zero =>
    intro j q t5 hq hj hk
    have hjT : j = F + ks_W P := by omega
    subst hjT
    cases q with
    | none =>
      refine tk_iload X d_Cache_room_11 rfl ?_
      refine tk_iload_n X d_Cache_room_13 rfl rfl ?_
      refine tk_aload_n X d_Cache_room_14 rfl rfl ?_
      refine tk_get X (k := (5, c, 0)) (dm := ks_dm P) (ks_d5 hc) rfl hc_Cache hi_Cache 1 (by decide) m_Cache_15 (v := .int _) rfl d_Cache_room_15 ?_
      refine tk_iadd X d_Cache_room_18 ?_
      refine tk_icmp_ge (tgt := 75) X d_Cache_room_19 (by decide) (fun _ => ?_) (fun h => absurd (by rw [nI_add]; exact nI_le (by omega) (by omega)) h)
      refine tk_aload_nN X d_Cache_room_75 rfl rfl ?_
      exact k0 _ t5 hq hk
    | some i =>
      refine tk_iload X d_Cache_room_11 rfl ?_
      refine tk_iload_n X d_Cache_room_13 rfl rfl ?_
      refine tk_aload_n X d_Cache_room_14 rfl rfl ?_
      refine tk_get X (k := (5, c, 0)) (dm := ks_dm P) (ks_d5 hc) rfl hc_Cache hi_Cache 1 (by decide) m_Cache_15 (v := .int _) rfl d_Cache_room_15 ?_
      refine tk_iadd X d_Cache_room_18 ?_
      refine tk_icmp_ge (tgt := 75) X d_Cache_room_19 (by decide) (fun _ => ?_) (fun h => absurd (by rw [nI_add]; exact nI_le (by omega) (by omega)) h)
      refine tk_aload_n X d_Cache_room_75 rfl rfl ?_
      exact k0 _ t5 hq hk
  | succ k ih =>
    intro j q t5 hq hj hk
    have hj2 : j < ks_T P := by omega
    cases q with
    | none =>
      refine tk_iload X d_Cache_room_11 rfl ?_
      refine tk_iload_n X d_Cache_room_13 rfl rfl ?_
      refine tk_aload_n X d_Cache_room_14 rfl rfl ?_
      refine tk_get X (k := (5, c, 0)) (dm := ks_dm P) (ks_d5 hc) rfl hc_Cache hi_Cache 1 (by decide) m_Cache_15 (v := .int _) rfl d_Cache_room_15 ?_
      refine tk_iadd X d_Cache_room_18 ?_
      refine tk_icmp_ge (tgt := 75) X d_Cache_room_19 (by decide) (fun h => absurd h (by rw [nI_add]; exact nI_ge (by omega) (by omega))) (fun _ => ?_)
      refine tk_aload_n X d_Cache_room_22 rfl rfl ?_
      refine tk_get X (k := (5, c, 0)) (dm := ks_dm P) (ks_d5 hc) rfl hc_Cache hi_Cache 2 (by decide) m_Cache_20 (v := .ref (tk_ad (ks_G P) (6, c, 0))) rfl d_Cache_room_23 ?_
      refine tk_iload X d_Cache_room_26 rfl ?_
      refine kw_way X hc (i := j) rfl hj2 hT64 d_Cache_room_28 ?_
      refine tk_astore X d_Cache_room_29 (by decide) rfl ?_
      refine tk_aload X d_Cache_room_31 rfl ?_
      refine tk_getN X (k := (7, c, j)) (dm := ks_dm P) (ks_d7 hc hj2) rfl hc_Way hi_Way 0 (by decide) n_Cache_29 (v := .int _) rfl d_Cache_room_33 ?_
      refine tk_if_ne (tgt := 42) X d_Cache_room_36 (by decide) (fun h1 => ?_) (fun h1 => ?_)
      · skip
        refine tk_aload X d_Cache_room_42 rfl ?_
        refine tk_getN X (k := (7, c, j)) (dm := ks_dm P) (ks_d7 hc hj2) rfl hc_Way hi_Way 2 (by decide) n_Cache_35 (v := .int _) rfl d_Cache_room_44 ?_
        refine tk_if_ne (tgt := 69) X d_Cache_room_47 (by decide) (fun h2 => ?_) (fun h2 => ?_)
        · skip
          refine tk_iinc (v := nI (j + 1)) X d_Cache_room_69 rfl (q_inc j) (by decide) rfl ?_
          refine tk_goto (tgt := 11) X d_Cache_room_72 (by decide) ?_
          exact ih (j + 1) none _ hq (by omega) (hk.trans (by rw [k_room, if_neg h1, if_neg (fun z => h2 z.1)]))
        · skip
          refine tk_aload_nN X d_Cache_room_50 rfl rfl ?_
          refine tk_ifnullN (tgt := 66) X d_Cache_room_51 (by decide) ?_
          refine tk_aload X d_Cache_room_66 rfl ?_
          refine tk_astore_n X d_Cache_room_68 rfl (by decide) rfl ?_
          refine tk_iinc (v := nI (j + 1)) X d_Cache_room_69 rfl (q_inc j) (by decide) rfl ?_
          refine tk_goto (tgt := 11) X d_Cache_room_72 (by decide) ?_
          exact ih (j + 1) (some j) _ (fun i2 e2 => by cases e2; exact hj2) (by omega) (hk.trans (by rw [k_room, if_neg h1, if_pos ⟨h2, rfl⟩]))
      · skip
        refine tk_aload X d_Cache_room_39 rfl ?_
        exact k1 j _ hj2 (hk.trans (by rw [k_room, if_pos h1]))
    | some i =>
      have hi : i < ks_T P := hq i rfl
      refine tk_iload X d_Cache_room_11 rfl ?_
      refine tk_iload_n X d_Cache_room_13 rfl rfl ?_
      refine tk_aload_n X d_Cache_room_14 rfl rfl ?_
      refine tk_get X (k := (5, c, 0)) (dm := ks_dm P) (ks_d5 hc) rfl hc_Cache hi_Cache 1 (by decide) m_Cache_15 (v := .int _) rfl d_Cache_room_15 ?_
      refine tk_iadd X d_Cache_room_18 ?_
      refine tk_icmp_ge (tgt := 75) X d_Cache_room_19 (by decide) (fun h => absurd h (by rw [nI_add]; exact nI_ge (by omega) (by omega))) (fun _ => ?_)
      refine tk_aload_n X d_Cache_room_22 rfl rfl ?_
      refine tk_get X (k := (5, c, 0)) (dm := ks_dm P) (ks_d5 hc) rfl hc_Cache hi_Cache 2 (by decide) m_Cache_20 (v := .ref (tk_ad (ks_G P) (6, c, 0))) rfl d_Cache_room_23 ?_
      refine tk_iload X d_Cache_room_26 rfl ?_
      refine kw_way X hc (i := j) rfl hj2 hT64 d_Cache_room_28 ?_
      refine tk_astore X d_Cache_room_29 (by decide) rfl ?_
      refine tk_aload X d_Cache_room_31 rfl ?_
      refine tk_getN X (k := (7, c, j)) (dm := ks_dm P) (ks_d7 hc hj2) rfl hc_Way hi_Way 0 (by decide) n_Cache_29 (v := .int _) rfl d_Cache_room_33 ?_
      refine tk_if_ne (tgt := 42) X d_Cache_room_36 (by decide) (fun h1 => ?_) (fun h1 => ?_)
      · skip
        refine tk_aload X d_Cache_room_42 rfl ?_
        refine tk_getN X (k := (7, c, j)) (dm := ks_dm P) (ks_d7 hc hj2) rfl hc_Way hi_Way 2 (by decide) n_Cache_35 (v := .int _) rfl d_Cache_room_44 ?_
        refine tk_if_ne (tgt := 69) X d_Cache_room_47 (by decide) (fun h2 => ?_) (fun h2 => ?_)
        · skip
          refine tk_iinc (v := nI (j + 1)) X d_Cache_room_69 rfl (q_inc j) (by decide) rfl ?_
          refine tk_goto (tgt := 11) X d_Cache_room_72 (by decide) ?_
          exact ih (j + 1) (some i) _ hq (by omega) (hk.trans (by rw [k_room, if_neg h1, if_neg (fun z => h2 z.1)]))
        · skip
          refine tk_aload_n X d_Cache_room_50 rfl rfl ?_
          refine tk_ifnull X d_Cache_room_51 ?_
          refine tk_aload X d_Cache_room_54 rfl ?_
          refine tk_getN X (k := (7, c, j)) (dm := ks_dm P) (ks_d7 hc hj2) rfl hc_Way hi_Way 5 (by decide) n_Cache_38 (v := .int _) rfl d_Cache_room_56 ?_
          refine tk_aload_n X d_Cache_room_59 rfl rfl ?_
          refine tk_getN X (k := (7, c, i)) (dm := ks_dm P) (ks_d7 hc hi) rfl hc_Way hi_Way 5 (by decide) n_Cache_38 (v := .int _) rfl d_Cache_room_60 ?_
          refine tk_icmp_ge (tgt := 69) X d_Cache_room_63 (by decide) (fun h3 => ?_) (fun h3 => ?_)
          · skip
            refine tk_iinc (v := nI (j + 1)) X d_Cache_room_69 rfl (q_inc j) (by decide) rfl ?_
            refine tk_goto (tgt := 11) X d_Cache_room_72 (by decide) ?_
            exact ih (j + 1) (some i) _ hq (by omega) (hk.trans (by rw [k_room, if_neg h1, if_neg (fun z => absurd (of_decide_eq_true z.2) (Int32.not_lt.mpr h3))]))
          · skip
            refine tk_aload X d_Cache_room_66 rfl ?_
            refine tk_astore_n X d_Cache_room_68 rfl (by decide) rfl ?_
            refine tk_iinc (v := nI (j + 1)) X d_Cache_room_69 rfl (q_inc j) (by decide) rfl ?_
            refine tk_goto (tgt := 11) X d_Cache_room_72 (by decide) ?_
            exact ih (j + 1) (some j) _ (fun i2 e2 => by cases e2; exact hj2) (by omega) (hk.trans (by rw [k_room, if_neg h1, if_pos ⟨h2, decide_eq_true (Int32.not_le.mp h3)⟩]))
      · skip
        refine tk_aload X d_Cache_room_39 rfl ?_
        exact k1 j _ hj2 (hk.trans (by rw [k_room, if_pos h1]))
end LP

set_option maxRecDepth 100000 in
set_option maxHeartbeats 4000000 in
theorem c_Cache_room (l : Launch) (P : ks_P) (hP : ks_ok P) (c x : Nat) (hc : c < ks_n P) (hx : x < 32) (a b : ks_M) (o : ks_O) : kc l P y_Cache_room b_Cache_room 6 (some (.object "TransactionCores$Way")) 1 [.ref (tk_ad (ks_G P) (5, c, 0)), .int (nI x)] a b o (some (k_ref P c (k_room a c (ks_W P) (k_first (ks_S P) (ks_W P) x) none))) a b o := by
  have hn64 := ks_n64 hP
  have hT64 := ks_T64 hP
  refine tk_of hP.2.2.2.2.2 (by decide) rfl (Nat.le_of_ble_eq_true rfl) ?_
  intro p e s m below meth c0 X hlk hr hnm
  refine tk_aload_n X d_Cache_room_0 rfl rfl ?_
  refine tk_iload_n X d_Cache_room_1 rfl rfl ?_
  refine tk_callV X (kb := (5, c, 0)) (ks_d5 hc) rfl hc_Cache (c_Cache_firstOfSet l P hP c x hc hx a b o) (ks_site (n := 1) mc_Cache_firstOfSet mi_Cache (by decide +kernel) (by decide) (by decide)) m_Cache_25 ms_Cache_firstOfSet mv_Cache_firstOfSet rfl (Nat.le_of_ble_eq_true rfl) ⟨Nat.le_of_ble_eq_true rfl, Nat.le_of_ble_eq_true rfl⟩ rfl d_Cache_room_2 ?_
  refine tk_istore_n X d_Cache_room_5 rfl (by decide) rfl ?_
  refine tk_null X d_Cache_room_6 ?_
  refine tk_astore_nN X d_Cache_room_7 rfl (by decide) rfl ?_
  refine tk_iload_n X d_Cache_room_8 rfl rfl ?_
  refine tk_istore X d_Cache_room_9 (by decide) rfl ?_
  refine lp_Cache_room X hP hc (k_first_le hP x) a b o (fun j v3 hj h => ?_) (fun q t5 hq h => ?_) (ks_W P) _ none none (fun i h => by cases h) rfl rfl
  · exact tk_aret X hlk hr (Or.inl ⟨_, rfl⟩) (Or.inr ⟨_, rfl⟩) d_Cache_room_41 (by rw [h]; rfl) (fun _ h => h) (Or.inr rfl) (fun _ _ => rfl)
  · exact tk_aret X hlk hr (Or.inl ⟨_, rfl⟩) (by cases q with | none => exact Or.inl rfl | some i => exact Or.inr ⟨_, rfl⟩) d_Cache_room_76 (by rw [h]) (fun _ h => h) (Or.inr rfl) (fun _ _ => rfl)
end
section
set_option maxRecDepth 100000 in
set_option maxHeartbeats 4000000 in
theorem c_Core_abort (l : Launch) (P : ks_P) (hP : ks_ok P) (c : Nat) (hc : c < ks_n P) (q : Nat) (hq : q < 6) (v : Int32) (a b : ks_M) (o : ks_O) : kc l P y_Core_abort b_Core_abort 3 (some .int) 1 [.ref (tk_ad (ks_G P) (4, c, 0)), .int (nI q), .int v] a b o (some (.int 2)) (k_abort (ks_T P) a c q v) b o := by
  have hn64 := ks_n64 hP
  have hT64 := ks_T64 hP
  refine tk_of hP.2.2.2.2.2 (by decide) rfl (Nat.le_of_ble_eq_true rfl) ?_
  intro p e s m below meth c0 X hlk hr hnm
  refine tk_aload_n X d_Core_abort_0 rfl rfl ?_
  refine tk_get X (k := (4, c, 0)) (dm := ks_dm P) (ks_d4 hc) rfl hc_Core hi_Core 1 (by decide) m_Core_28 (v := .ref (tk_ad (ks_G P) (5, c, 0))) rfl d_Core_abort_1 ?_
  refine tk_callV X (kb := (5, c, 0)) (ks_d5 hc) rfl hc_Cache (c_Cache_dropWritten l P hP c hc a b o) (ks_site (n := 0) mc_Cache_dropWritten mi_Cache (by decide +kernel) (by decide) (by decide)) m_Core_79 ms_Cache_dropWritten mv_Cache_dropWritten rfl (Nat.le_of_ble_eq_true rfl) ⟨Nat.le_of_ble_eq_true rfl, Nat.le_of_ble_eq_true rfl⟩ rfl d_Core_abort_4 ?_
  refine tk_aload_n X d_Core_abort_7 rfl rfl ?_
  refine tk_get X (k := (4, c, 0)) (dm := ks_dm P) (ks_d4 hc) rfl hc_Core hi_Core 1 (by decide) m_Core_28 (v := .ref (tk_ad (ks_G P) (5, c, 0))) rfl d_Core_abort_8 ?_
  refine tk_callV X (kb := (5, c, 0)) (ks_d5 hc) rfl hc_Cache (c_Cache_dropMarks l P hP c hc (k_dw a c (ks_T P)) b o) (ks_site (n := 0) mc_Cache_dropMarks mi_Cache (by decide +kernel) (by decide) (by decide)) m_Core_70 ms_Cache_dropMarks mv_Cache_dropMarks rfl (Nat.le_of_ble_eq_true rfl) ⟨Nat.le_of_ble_eq_true rfl, Nat.le_of_ble_eq_true rfl⟩ rfl d_Core_abort_11 ?_
  refine tk_aload_n X d_Core_abort_14 rfl rfl ?_
  refine tk_get X (k := (4, c, 0)) (dm := ks_dm P) (ks_d4 hc) rfl hc_Core hi_Core 4 (by decide) m_Core_18 (v := .ref (tk_ad (ks_G P) (10, c, 0))) rfl d_Core_abort_15 ?_
  refine tk_iconst (v := 0) X d_Core_abort_18 (by decide) ?_
  refine tk_aload_n X d_Core_abort_19 rfl rfl ?_
  refine tk_get X (k := (4, c, 0)) (dm := ks_dm P) (ks_d4 hc) rfl hc_Core hi_Core 3 (by decide) m_Core_15 (v := .ref (tk_ad (ks_G P) (9, c, 0))) rfl d_Core_abort_20 ?_
  refine tk_iconst (v := 0) X d_Core_abort_23 (by decide) ?_
  refine tk_bipush (v := 8) X d_Core_abort_24 (by decide) ?_
  refine kw_copy X m_Core_61 (k0 := (10, c, 0)) (k1 := (9, c, 0)) (ks_d10 hc) (ks_d9 hc) rfl rfl (fun _ => rfl) (fun _ => rfl) (Nat.le_of_ble_eq_true rfl) (Nat.le_of_ble_eq_true rfl) d_Core_abort_26 ?_
  refine tk_aload_n X d_Core_abort_29 rfl rfl ?_
  refine tk_get X (k := (4, c, 0)) (dm := ks_dm P) (ks_d4 hc) rfl hc_Core hi_Core 3 (by decide) m_Core_15 (v := .ref (tk_ad (ks_G P) (9, c, 0))) rfl d_Core_abort_30 ?_
  refine tk_bipush (v := 7) X d_Core_abort_33 (by decide) ?_
  refine tk_iload_n X d_Core_abort_35 rfl rfl ?_
  refine tk_iload_n X d_Core_abort_36 rfl rfl ?_
  refine tk_iadd X d_Core_abort_37 ?_
  refine kw_iast X (k := (9, c, 0)) (ks_d9 hc) rfl (by decide) rfl (by decide) rfl d_Core_abort_38 ?_
  refine tk_aload_n X d_Core_abort_39 rfl rfl ?_
  refine tk_aload_n X d_Core_abort_40 rfl rfl ?_
  refine tk_get X (k := (4, c, 0)) (dm := ks_dm P) (ks_d4 hc) rfl hc_Core hi_Core 7 (by decide) m_Core_67 (v := .int _) rfl d_Core_abort_41 ?_
  refine kw_put X (k := (4, c, 0)) (ks_d4 hc) rfl hc_Core hi_Core t_Core t_Core_ok n_Core 6 (by decide) rfl m_Core_51 rfl rfl rfl d_Core_abort_44 ?_
  refine tk_aload_n X d_Core_abort_47 rfl rfl ?_
  refine tk_iconst (v := 0) X d_Core_abort_48 (by decide) ?_
  refine kw_put X (k := (4, c, 0)) (ks_d4 hc) rfl hc_Core hi_Core t_Core t_Core_ok n_Core 8 (by decide) rfl m_Core_48 rfl rfl rfl d_Core_abort_49 ?_
  refine tk_aload_n X d_Core_abort_52 rfl rfl ?_
  refine tk_get X (k := (4, c, 0)) (dm := ks_dm P) (ks_d4 hc) rfl hc_Core hi_Core 5 (by decide) m_Core_21 (v := .ref (tk_ad (ks_G P) (11, c, 0))) rfl d_Core_abort_53 ?_
  refine tk_iload_n X d_Core_abort_56 rfl rfl ?_
  refine tk_dup2 X rfl rfl d_Core_abort_57 ?_
  refine kw_iald X (k := (11, c, 0)) (ks_d11 hc) rfl (by decide) rfl hq (v := _) rfl d_Core_abort_58 ?_
  refine tk_iconst (v := 1) X d_Core_abort_59 (by decide) ?_
  refine tk_iadd X d_Core_abort_60 ?_
  refine kw_iast X (k := (11, c, 0)) (ks_d11 hc) rfl (by decide) rfl hq rfl d_Core_abort_61 ?_
  refine tk_iconst (v := 2) X d_Core_abort_62 (by decide) ?_
  exact tk_iret X hlk hr d_Core_abort_63 (rfl) (fun _ h => h) (Or.inr rfl) (fun _ _ => rfl)

set_option maxRecDepth 100000 in
set_option maxHeartbeats 4000000 in
theorem c_Core_addressOf (l : Launch) (P : ks_P) (hP : ks_ok P) (c : Nat) (hc : c < ks_n P) (x : Int32) (a b : ks_M) (o : ks_O) : kc l P y_Core_addressOf b_Core_addressOf 2 (some .int) 2 [.ref (tk_ad (ks_G P) (4, c, 0)), .int x] a b o (some (.int (k_addr a c x))) a b o := by
  have hn64 := ks_n64 hP
  have hT64 := ks_T64 hP
  refine tk_of hP.2.2.2.2.2 (by decide) rfl (Nat.le_of_ble_eq_true rfl) ?_
  intro p e s m below meth c0 X hlk hr hnm
  refine tk_aload_n X d_Core_addressOf_0 rfl rfl ?_
  refine tk_get X (k := (4, c, 0)) (dm := ks_dm P) (ks_d4 hc) rfl hc_Core hi_Core 3 (by decide) m_Core_15 (v := .ref (tk_ad (ks_G P) (9, c, 0))) rfl d_Core_addressOf_1 ?_
  refine tk_iload_n X d_Core_addressOf_4 rfl rfl ?_
  refine tk_callSN X (c_TC_registerB l P hP x a b o) (ks_site (n := 1) mc_TC_registerB mi_TC (by decide +kernel) (by decide) (by decide)) n_Core_32 ms_TC_registerB rfl (Nat.le_of_ble_eq_true rfl) ⟨Nat.le_of_ble_eq_true rfl, Nat.le_of_ble_eq_true rfl⟩ rfl d_Core_addressOf_5 ?_
  refine kw_iald X (k := (9, c, 0)) (ks_d9 hc) rfl (by decide) (q_mB x) (q_lB x) (v := _) rfl d_Core_addressOf_8 ?_
  refine tk_iload_n X d_Core_addressOf_9 rfl rfl ?_
  refine tk_callSN X (c_TC_immediateOf l P hP x a b o) (ks_site (n := 1) mc_TC_immediateOf mi_TC (by decide +kernel) (by decide) (by decide)) n_Core_45 ms_TC_immediateOf rfl (Nat.le_of_ble_eq_true rfl) ⟨Nat.le_of_ble_eq_true rfl, Nat.le_of_ble_eq_true rfl⟩ rfl d_Core_addressOf_10 ?_
  refine tk_iadd X d_Core_addressOf_13 ?_
  exact tk_iret X hlk hr d_Core_addressOf_14 (rfl) (fun _ h => h) (Or.inr rfl) (fun _ _ => rfl)

set_option maxRecDepth 100000 in
set_option maxHeartbeats 4000000 in
theorem c_Core_reckon (l : Launch) (P : ks_P) (hP : ks_ok P) (c : Nat) (hc : c < ks_n P) (x : Int32) (a b : ks_M) (o : ks_O) : kc l P y_Core_reckon b_Core_reckon 5 none 2 [.ref (tk_ad (ks_G P) (4, c, 0)), .int x] a b o (none) (k_reckon a c x) b o := by
  have hn64 := ks_n64 hP
  have hT64 := ks_T64 hP
  refine tk_of hP.2.2.2.2.2 (by decide) rfl (Nat.le_of_ble_eq_true rfl) ?_
  intro p e s m below meth c0 X hlk hr hnm
  refine tk_aload_n X d_Core_reckon_0 rfl rfl ?_
  refine tk_get X (k := (4, c, 0)) (dm := ks_dm P) (ks_d4 hc) rfl hc_Core hi_Core 3 (by decide) m_Core_15 (v := .ref (tk_ad (ks_G P) (9, c, 0))) rfl d_Core_reckon_1 ?_
  refine tk_iload_n X d_Core_reckon_4 rfl rfl ?_
  refine tk_callSN X (c_TC_registerB l P hP x a b o) (ks_site (n := 1) mc_TC_registerB mi_TC (by decide +kernel) (by decide) (by decide)) n_Core_32 ms_TC_registerB rfl (Nat.le_of_ble_eq_true rfl) ⟨Nat.le_of_ble_eq_true rfl, Nat.le_of_ble_eq_true rfl⟩ rfl d_Core_reckon_5 ?_
  refine kw_iald X (k := (9, c, 0)) (ks_d9 hc) rfl (by decide) (q_mB x) (q_lB x) (v := _) rfl d_Core_reckon_8 ?_
  refine tk_istore_n X d_Core_reckon_9 rfl (by decide) rfl ?_
  refine tk_aload_n X d_Core_reckon_10 rfl rfl ?_
  refine tk_get X (k := (4, c, 0)) (dm := ks_dm P) (ks_d4 hc) rfl hc_Core hi_Core 3 (by decide) m_Core_15 (v := .ref (tk_ad (ks_G P) (9, c, 0))) rfl d_Core_reckon_11 ?_
  refine tk_iload_n X d_Core_reckon_14 rfl rfl ?_
  refine tk_callSN X (c_TC_registerC l P hP x a b o) (ks_site (n := 1) mc_TC_registerC mi_TC (by decide +kernel) (by decide) (by decide)) n_Core_36 ms_TC_registerC rfl (Nat.le_of_ble_eq_true rfl) ⟨Nat.le_of_ble_eq_true rfl, Nat.le_of_ble_eq_true rfl⟩ rfl d_Core_reckon_15 ?_
  refine kw_iald X (k := (9, c, 0)) (ks_d9 hc) rfl (by decide) (q_mC x) (q_lC x) (v := _) rfl d_Core_reckon_18 ?_
  refine tk_istore_n X d_Core_reckon_19 rfl (by decide) rfl ?_
  refine tk_iload_n X d_Core_reckon_20 rfl rfl ?_
  refine tk_callSN X (c_TC_registerA l P hP x a b o) (ks_site (n := 1) mc_TC_registerA mi_TC (by decide +kernel) (by decide) (by decide)) n_Core_39 ms_TC_registerA rfl (Nat.le_of_ble_eq_true rfl) ⟨Nat.le_of_ble_eq_true rfl, Nat.le_of_ble_eq_true rfl⟩ rfl d_Core_reckon_21 ?_
  refine tk_istore X d_Core_reckon_24 (by decide) rfl ?_
  refine tk_iload_n X d_Core_reckon_26 rfl rfl ?_
  refine tk_callSN X (c_TC_kindOf l P hP x a b o) (ks_site (n := 1) mc_TC_kindOf mi_TC (by decide +kernel) (by decide) (by decide)) n_Core_42 ms_TC_kindOf rfl (Nat.le_of_ble_eq_true rfl) ⟨Nat.le_of_ble_eq_true rfl, Nat.le_of_ble_eq_true rfl⟩ rfl d_Core_reckon_27 ?_
  by_cases h1 : x &&& 15 = 1
  · skip
    refine tk_tableAt (K := 1) (tgt := 92) X h1 d_Core_reckon_30 (by decide) (by decide) rfl (by decide) ?_
    refine tk_aload_n X d_Core_reckon_92 rfl rfl ?_
    refine tk_get X (k := (4, c, 0)) (dm := ks_dm P) (ks_d4 hc) rfl hc_Core hi_Core 3 (by decide) m_Core_15 (v := .ref (tk_ad (ks_G P) (9, c, 0))) rfl d_Core_reckon_93 ?_
    refine tk_iload X d_Core_reckon_96 rfl ?_
    refine tk_iload_n X d_Core_reckon_98 rfl rfl ?_
    refine tk_callSN X (c_TC_immediateOf l P hP x a b o) (ks_site (n := 1) mc_TC_immediateOf mi_TC (by decide +kernel) (by decide) (by decide)) n_Core_45 ms_TC_immediateOf rfl (Nat.le_of_ble_eq_true rfl) ⟨Nat.le_of_ble_eq_true rfl, Nat.le_of_ble_eq_true rfl⟩ rfl d_Core_reckon_99 ?_
    refine kw_iast X (k := (9, c, 0)) (ks_d9 hc) rfl (by decide) (q_mA x) (q_lA x) rfl d_Core_reckon_102 ?_
    refine tk_goto (tgt := 170) X d_Core_reckon_103 (by decide) ?_
    exact tk_vret X hlk hr d_Core_reckon_170 rfl (fun _ h => h) (Or.inr rfl) (kw_st (by rw [k_reckon, if_pos h1] <;> rfl) rfl rfl)
  by_cases h2 : x &&& 15 = 2
  · skip
    refine tk_tableAt (K := 2) (tgt := 106) X h2 d_Core_reckon_30 (by decide) (by decide) rfl (by decide) ?_
    refine tk_aload_n X d_Core_reckon_106 rfl rfl ?_
    refine tk_get X (k := (4, c, 0)) (dm := ks_dm P) (ks_d4 hc) rfl hc_Core hi_Core 3 (by decide) m_Core_15 (v := .ref (tk_ad (ks_G P) (9, c, 0))) rfl d_Core_reckon_107 ?_
    refine tk_iload X d_Core_reckon_110 rfl ?_
    refine tk_iload_n X d_Core_reckon_112 rfl rfl ?_
    refine tk_iload_n X d_Core_reckon_113 rfl rfl ?_
    refine tk_iadd X d_Core_reckon_114 ?_
    refine kw_iast X (k := (9, c, 0)) (ks_d9 hc) rfl (by decide) (q_mA x) (q_lA x) rfl d_Core_reckon_115 ?_
    refine tk_goto (tgt := 170) X d_Core_reckon_116 (by decide) ?_
    exact tk_vret X hlk hr d_Core_reckon_170 rfl (fun _ h => h) (Or.inr rfl) (kw_st (by rw [k_reckon, if_neg (by rw [h2]; decide), if_pos h2] <;> rfl) rfl rfl)
  by_cases h3 : x &&& 15 = 3
  · skip
    refine tk_tableAt (K := 3) (tgt := 119) X h3 d_Core_reckon_30 (by decide) (by decide) rfl (by decide) ?_
    refine tk_aload_n X d_Core_reckon_119 rfl rfl ?_
    refine tk_get X (k := (4, c, 0)) (dm := ks_dm P) (ks_d4 hc) rfl hc_Core hi_Core 3 (by decide) m_Core_15 (v := .ref (tk_ad (ks_G P) (9, c, 0))) rfl d_Core_reckon_120 ?_
    refine tk_iload X d_Core_reckon_123 rfl ?_
    refine tk_iload_n X d_Core_reckon_125 rfl rfl ?_
    refine tk_iload_n X d_Core_reckon_126 rfl rfl ?_
    refine tk_isub X d_Core_reckon_127 ?_
    refine kw_iast X (k := (9, c, 0)) (ks_d9 hc) rfl (by decide) (q_mA x) (q_lA x) rfl d_Core_reckon_128 ?_
    refine tk_goto (tgt := 170) X d_Core_reckon_129 (by decide) ?_
    exact tk_vret X hlk hr d_Core_reckon_170 rfl (fun _ h => h) (Or.inr rfl) (kw_st (by rw [k_reckon, if_neg (by rw [h3]; decide), if_neg (by rw [h3]; decide), if_pos h3] <;> rfl) rfl rfl)
  by_cases h4 : x &&& 15 = 4
  · skip
    refine tk_tableAt (K := 4) (tgt := 132) X h4 d_Core_reckon_30 (by decide) (by decide) rfl (by decide) ?_
    refine tk_aload_n X d_Core_reckon_132 rfl rfl ?_
    refine tk_get X (k := (4, c, 0)) (dm := ks_dm P) (ks_d4 hc) rfl hc_Core hi_Core 3 (by decide) m_Core_15 (v := .ref (tk_ad (ks_G P) (9, c, 0))) rfl d_Core_reckon_133 ?_
    refine tk_iload X d_Core_reckon_136 rfl ?_
    refine tk_iload_n X d_Core_reckon_138 rfl rfl ?_
    refine tk_iload_n X d_Core_reckon_139 rfl rfl ?_
    refine tk_iand X d_Core_reckon_140 ?_
    refine kw_iast X (k := (9, c, 0)) (ks_d9 hc) rfl (by decide) (q_mA x) (q_lA x) rfl d_Core_reckon_141 ?_
    refine tk_goto (tgt := 170) X d_Core_reckon_142 (by decide) ?_
    exact tk_vret X hlk hr d_Core_reckon_170 rfl (fun _ h => h) (Or.inr rfl) (kw_st (by rw [k_reckon, if_neg (by rw [h4]; decide), if_neg (by rw [h4]; decide), if_neg (by rw [h4]; decide), if_pos h4] <;> rfl) rfl rfl)
  by_cases h5 : x &&& 15 = 5
  · skip
    refine tk_tableAt (K := 5) (tgt := 159) X h5 d_Core_reckon_30 (by decide) (by decide) rfl (by decide) ?_
    refine tk_aload_n X d_Core_reckon_159 rfl rfl ?_
    refine tk_get X (k := (4, c, 0)) (dm := ks_dm P) (ks_d4 hc) rfl hc_Core hi_Core 3 (by decide) m_Core_15 (v := .ref (tk_ad (ks_G P) (9, c, 0))) rfl d_Core_reckon_160 ?_
    refine tk_iload X d_Core_reckon_163 rfl ?_
    refine tk_aload_n X d_Core_reckon_165 rfl rfl ?_
    refine tk_get X (k := (4, c, 0)) (dm := ks_dm P) (ks_d4 hc) rfl hc_Core hi_Core 0 (by decide) m_Core_24 (v := .int _) rfl d_Core_reckon_166 ?_
    refine kw_iast X (k := (9, c, 0)) (ks_d9 hc) rfl (by decide) (q_mA x) (q_lA x) rfl d_Core_reckon_169 ?_
    exact tk_vret X hlk hr d_Core_reckon_170 rfl (fun _ h => h) (Or.inr rfl) (kw_st (by rw [k_reckon, if_neg (by rw [h5]; decide), if_neg (by rw [h5]; decide), if_neg (by rw [h5]; decide), if_neg (by rw [h5]; decide), if_neg (by rw [h5]; decide)] <;> rfl) rfl rfl)
  by_cases h6 : x &&& 15 = 6
  · skip
    refine tk_tableAt (K := 6) (tgt := 159) X h6 d_Core_reckon_30 (by decide) (by decide) rfl (by decide) ?_
    refine tk_aload_n X d_Core_reckon_159 rfl rfl ?_
    refine tk_get X (k := (4, c, 0)) (dm := ks_dm P) (ks_d4 hc) rfl hc_Core hi_Core 3 (by decide) m_Core_15 (v := .ref (tk_ad (ks_G P) (9, c, 0))) rfl d_Core_reckon_160 ?_
    refine tk_iload X d_Core_reckon_163 rfl ?_
    refine tk_aload_n X d_Core_reckon_165 rfl rfl ?_
    refine tk_get X (k := (4, c, 0)) (dm := ks_dm P) (ks_d4 hc) rfl hc_Core hi_Core 0 (by decide) m_Core_24 (v := .int _) rfl d_Core_reckon_166 ?_
    refine kw_iast X (k := (9, c, 0)) (ks_d9 hc) rfl (by decide) (q_mA x) (q_lA x) rfl d_Core_reckon_169 ?_
    exact tk_vret X hlk hr d_Core_reckon_170 rfl (fun _ h => h) (Or.inr rfl) (kw_st (by rw [k_reckon, if_neg (by rw [h6]; decide), if_neg (by rw [h6]; decide), if_neg (by rw [h6]; decide), if_neg (by rw [h6]; decide), if_neg (by rw [h6]; decide)] <;> rfl) rfl rfl)
  by_cases h7 : x &&& 15 = 7
  · skip
    refine tk_tableAt (K := 7) (tgt := 159) X h7 d_Core_reckon_30 (by decide) (by decide) rfl (by decide) ?_
    refine tk_aload_n X d_Core_reckon_159 rfl rfl ?_
    refine tk_get X (k := (4, c, 0)) (dm := ks_dm P) (ks_d4 hc) rfl hc_Core hi_Core 3 (by decide) m_Core_15 (v := .ref (tk_ad (ks_G P) (9, c, 0))) rfl d_Core_reckon_160 ?_
    refine tk_iload X d_Core_reckon_163 rfl ?_
    refine tk_aload_n X d_Core_reckon_165 rfl rfl ?_
    refine tk_get X (k := (4, c, 0)) (dm := ks_dm P) (ks_d4 hc) rfl hc_Core hi_Core 0 (by decide) m_Core_24 (v := .int _) rfl d_Core_reckon_166 ?_
    refine kw_iast X (k := (9, c, 0)) (ks_d9 hc) rfl (by decide) (q_mA x) (q_lA x) rfl d_Core_reckon_169 ?_
    exact tk_vret X hlk hr d_Core_reckon_170 rfl (fun _ h => h) (Or.inr rfl) (kw_st (by rw [k_reckon, if_neg (by rw [h7]; decide), if_neg (by rw [h7]; decide), if_neg (by rw [h7]; decide), if_neg (by rw [h7]; decide), if_neg (by rw [h7]; decide)] <;> rfl) rfl rfl)
  by_cases h8 : x &&& 15 = 8
  · skip
    refine tk_tableAt (K := 8) (tgt := 159) X h8 d_Core_reckon_30 (by decide) (by decide) rfl (by decide) ?_
    refine tk_aload_n X d_Core_reckon_159 rfl rfl ?_
    refine tk_get X (k := (4, c, 0)) (dm := ks_dm P) (ks_d4 hc) rfl hc_Core hi_Core 3 (by decide) m_Core_15 (v := .ref (tk_ad (ks_G P) (9, c, 0))) rfl d_Core_reckon_160 ?_
    refine tk_iload X d_Core_reckon_163 rfl ?_
    refine tk_aload_n X d_Core_reckon_165 rfl rfl ?_
    refine tk_get X (k := (4, c, 0)) (dm := ks_dm P) (ks_d4 hc) rfl hc_Core hi_Core 0 (by decide) m_Core_24 (v := .int _) rfl d_Core_reckon_166 ?_
    refine kw_iast X (k := (9, c, 0)) (ks_d9 hc) rfl (by decide) (q_mA x) (q_lA x) rfl d_Core_reckon_169 ?_
    exact tk_vret X hlk hr d_Core_reckon_170 rfl (fun _ h => h) (Or.inr rfl) (kw_st (by rw [k_reckon, if_neg (by rw [h8]; decide), if_neg (by rw [h8]; decide), if_neg (by rw [h8]; decide), if_neg (by rw [h8]; decide), if_neg (by rw [h8]; decide)] <;> rfl) rfl rfl)
  by_cases h9 : x &&& 15 = 9
  · skip
    refine tk_tableAt (K := 9) (tgt := 159) X h9 d_Core_reckon_30 (by decide) (by decide) rfl (by decide) ?_
    refine tk_aload_n X d_Core_reckon_159 rfl rfl ?_
    refine tk_get X (k := (4, c, 0)) (dm := ks_dm P) (ks_d4 hc) rfl hc_Core hi_Core 3 (by decide) m_Core_15 (v := .ref (tk_ad (ks_G P) (9, c, 0))) rfl d_Core_reckon_160 ?_
    refine tk_iload X d_Core_reckon_163 rfl ?_
    refine tk_aload_n X d_Core_reckon_165 rfl rfl ?_
    refine tk_get X (k := (4, c, 0)) (dm := ks_dm P) (ks_d4 hc) rfl hc_Core hi_Core 0 (by decide) m_Core_24 (v := .int _) rfl d_Core_reckon_166 ?_
    refine kw_iast X (k := (9, c, 0)) (ks_d9 hc) rfl (by decide) (q_mA x) (q_lA x) rfl d_Core_reckon_169 ?_
    exact tk_vret X hlk hr d_Core_reckon_170 rfl (fun _ h => h) (Or.inr rfl) (kw_st (by rw [k_reckon, if_neg (by rw [h9]; decide), if_neg (by rw [h9]; decide), if_neg (by rw [h9]; decide), if_neg (by rw [h9]; decide), if_neg (by rw [h9]; decide)] <;> rfl) rfl rfl)
  by_cases h10 : x &&& 15 = 10
  · skip
    refine tk_tableAt (K := 10) (tgt := 159) X h10 d_Core_reckon_30 (by decide) (by decide) rfl (by decide) ?_
    refine tk_aload_n X d_Core_reckon_159 rfl rfl ?_
    refine tk_get X (k := (4, c, 0)) (dm := ks_dm P) (ks_d4 hc) rfl hc_Core hi_Core 3 (by decide) m_Core_15 (v := .ref (tk_ad (ks_G P) (9, c, 0))) rfl d_Core_reckon_160 ?_
    refine tk_iload X d_Core_reckon_163 rfl ?_
    refine tk_aload_n X d_Core_reckon_165 rfl rfl ?_
    refine tk_get X (k := (4, c, 0)) (dm := ks_dm P) (ks_d4 hc) rfl hc_Core hi_Core 0 (by decide) m_Core_24 (v := .int _) rfl d_Core_reckon_166 ?_
    refine kw_iast X (k := (9, c, 0)) (ks_d9 hc) rfl (by decide) (q_mA x) (q_lA x) rfl d_Core_reckon_169 ?_
    exact tk_vret X hlk hr d_Core_reckon_170 rfl (fun _ h => h) (Or.inr rfl) (kw_st (by rw [k_reckon, if_neg (by rw [h10]; decide), if_neg (by rw [h10]; decide), if_neg (by rw [h10]; decide), if_neg (by rw [h10]; decide), if_neg (by rw [h10]; decide)] <;> rfl) rfl rfl)
  by_cases h11 : x &&& 15 = 11
  · skip
    refine tk_tableAt (K := 11) (tgt := 159) X h11 d_Core_reckon_30 (by decide) (by decide) rfl (by decide) ?_
    refine tk_aload_n X d_Core_reckon_159 rfl rfl ?_
    refine tk_get X (k := (4, c, 0)) (dm := ks_dm P) (ks_d4 hc) rfl hc_Core hi_Core 3 (by decide) m_Core_15 (v := .ref (tk_ad (ks_G P) (9, c, 0))) rfl d_Core_reckon_160 ?_
    refine tk_iload X d_Core_reckon_163 rfl ?_
    refine tk_aload_n X d_Core_reckon_165 rfl rfl ?_
    refine tk_get X (k := (4, c, 0)) (dm := ks_dm P) (ks_d4 hc) rfl hc_Core hi_Core 0 (by decide) m_Core_24 (v := .int _) rfl d_Core_reckon_166 ?_
    refine kw_iast X (k := (9, c, 0)) (ks_d9 hc) rfl (by decide) (q_mA x) (q_lA x) rfl d_Core_reckon_169 ?_
    exact tk_vret X hlk hr d_Core_reckon_170 rfl (fun _ h => h) (Or.inr rfl) (kw_st (by rw [k_reckon, if_neg (by rw [h11]; decide), if_neg (by rw [h11]; decide), if_neg (by rw [h11]; decide), if_neg (by rw [h11]; decide), if_neg (by rw [h11]; decide)] <;> rfl) rfl rfl)
  by_cases h12 : x &&& 15 = 12
  · skip
    refine tk_tableAt (K := 12) (tgt := 145) X h12 d_Core_reckon_30 (by decide) (by decide) rfl (by decide) ?_
    refine tk_aload_n X d_Core_reckon_145 rfl rfl ?_
    refine tk_get X (k := (4, c, 0)) (dm := ks_dm P) (ks_d4 hc) rfl hc_Core hi_Core 3 (by decide) m_Core_15 (v := .ref (tk_ad (ks_G P) (9, c, 0))) rfl d_Core_reckon_146 ?_
    refine tk_iload X d_Core_reckon_149 rfl ?_
    refine tk_aload_n X d_Core_reckon_151 rfl rfl ?_
    refine tk_get X (k := (4, c, 0)) (dm := ks_dm P) (ks_d4 hc) rfl hc_Core hi_Core 8 (by decide) m_Core_48 (v := .int _) rfl d_Core_reckon_152 ?_
    refine kw_iast X (k := (9, c, 0)) (ks_d9 hc) rfl (by decide) (q_mA x) (q_lA x) rfl d_Core_reckon_155 ?_
    refine tk_goto (tgt := 170) X d_Core_reckon_156 (by decide) ?_
    exact tk_vret X hlk hr d_Core_reckon_170 rfl (fun _ h => h) (Or.inr rfl) (kw_st (by rw [k_reckon, if_neg (by rw [h12]; decide), if_neg (by rw [h12]; decide), if_neg (by rw [h12]; decide), if_neg (by rw [h12]; decide), if_pos h12] <;> rfl) rfl rfl)
  refine tk_tableOut (tgt := 159) X d_Core_reckon_30 (by have := lv_neT (a := 1) h1 (by decide); have := lv_neT (a := 2) h2 (by decide); have := lv_neT (a := 3) h3 (by decide); have := lv_neT (a := 4) h4 (by decide); have := lv_neT (a := 5) h5 (by decide); have := lv_neT (a := 6) h6 (by decide); have := lv_neT (a := 7) h7 (by decide); have := lv_neT (a := 8) h8 (by decide); have := lv_neT (a := 9) h9 (by decide); have := lv_neT (a := 10) h10 (by decide); have := lv_neT (a := 11) h11 (by decide); have := lv_neT (a := 12) h12 (by decide); omega) (by decide) ?_
  refine tk_aload_n X d_Core_reckon_159 rfl rfl ?_
  refine tk_get X (k := (4, c, 0)) (dm := ks_dm P) (ks_d4 hc) rfl hc_Core hi_Core 3 (by decide) m_Core_15 (v := .ref (tk_ad (ks_G P) (9, c, 0))) rfl d_Core_reckon_160 ?_
  refine tk_iload X d_Core_reckon_163 rfl ?_
  refine tk_aload_n X d_Core_reckon_165 rfl rfl ?_
  refine tk_get X (k := (4, c, 0)) (dm := ks_dm P) (ks_d4 hc) rfl hc_Core hi_Core 0 (by decide) m_Core_24 (v := .int _) rfl d_Core_reckon_166 ?_
  refine kw_iast X (k := (9, c, 0)) (ks_d9 hc) rfl (by decide) (q_mA x) (q_lA x) rfl d_Core_reckon_169 ?_
  exact tk_vret X hlk hr d_Core_reckon_170 rfl (fun _ h => h) (Or.inr rfl) (kw_st (by rw [k_reckon, if_neg h1, if_neg h2, if_neg h3, if_neg h4, if_neg h12] <;> rfl) rfl rfl)

set_option maxRecDepth 100000 in
set_option maxHeartbeats 4000000 in
theorem c_Core_branch (l : Launch) (P : ks_P) (hP : ks_ok P) (c : Nat) (hc : c < ks_n P) (x : Int32) (a b : ks_M) (o : ks_O) : kc l P y_Core_branch b_Core_branch 4 none 2 [.ref (tk_ad (ks_G P) (4, c, 0)), .int x] a b o (none) (k_branch a c x) b o := by
  have hn64 := ks_n64 hP
  have hT64 := ks_T64 hP
  refine tk_of hP.2.2.2.2.2 (by decide) rfl (Nat.le_of_ble_eq_true rfl) ?_
  intro p e s m below meth c0 X hlk hr hnm
  refine tk_aload_n X d_Core_branch_0 rfl rfl ?_
  refine tk_get X (k := (4, c, 0)) (dm := ks_dm P) (ks_d4 hc) rfl hc_Core hi_Core 3 (by decide) m_Core_15 (v := .ref (tk_ad (ks_G P) (9, c, 0))) rfl d_Core_branch_1 ?_
  refine tk_iload_n X d_Core_branch_4 rfl rfl ?_
  refine tk_callSN X (c_TC_registerA l P hP x a b o) (ks_site (n := 1) mc_TC_registerA mi_TC (by decide +kernel) (by decide) (by decide)) n_Core_39 ms_TC_registerA rfl (Nat.le_of_ble_eq_true rfl) ⟨Nat.le_of_ble_eq_true rfl, Nat.le_of_ble_eq_true rfl⟩ rfl d_Core_branch_5 ?_
  refine kw_iald X (k := (9, c, 0)) (ks_d9 hc) rfl (by decide) (q_mA x) (q_lA x) (v := _) rfl d_Core_branch_8 ?_
  refine tk_istore_n X d_Core_branch_9 rfl (by decide) rfl ?_
  refine tk_iload_n X d_Core_branch_10 rfl rfl ?_
  refine tk_callSN X (c_TC_kindOf l P hP x a b o) (ks_site (n := 1) mc_TC_kindOf mi_TC (by decide +kernel) (by decide) (by decide)) n_Core_42 ms_TC_kindOf rfl (Nat.le_of_ble_eq_true rfl) ⟨Nat.le_of_ble_eq_true rfl, Nat.le_of_ble_eq_true rfl⟩ rfl d_Core_branch_11 ?_
  refine tk_bipush (v := 7) X d_Core_branch_14 (by decide) ?_
  refine tk_icmp_ne (tgt := 31) X d_Core_branch_16 (by decide) (fun h1 => ?_) (fun h1 => ?_)
  · skip
    refine tk_iload_n X d_Core_branch_31 rfl rfl ?_
    refine tk_aload_n X d_Core_branch_32 rfl rfl ?_
    refine tk_get X (k := (4, c, 0)) (dm := ks_dm P) (ks_d4 hc) rfl hc_Core hi_Core 3 (by decide) m_Core_15 (v := .ref (tk_ad (ks_G P) (9, c, 0))) rfl d_Core_branch_33 ?_
    refine tk_iload_n X d_Core_branch_36 rfl rfl ?_
    refine tk_callSN X (c_TC_registerB l P hP x a b o) (ks_site (n := 1) mc_TC_registerB mi_TC (by decide +kernel) (by decide) (by decide)) n_Core_32 ms_TC_registerB rfl (Nat.le_of_ble_eq_true rfl) ⟨Nat.le_of_ble_eq_true rfl, Nat.le_of_ble_eq_true rfl⟩ rfl d_Core_branch_37 ?_
    refine kw_iald X (k := (9, c, 0)) (ks_d9 hc) rfl (by decide) (q_mB x) (q_lB x) (v := _) rfl d_Core_branch_40 ?_
    refine tk_icmp_ge (tgt := 48) X d_Core_branch_41 (by decide) (fun h2 => ?_) (fun h2 => ?_)
    · skip
      refine tk_iconst (v := 0) X d_Core_branch_48 (by decide) ?_
      refine tk_istore_n X d_Core_branch_49 rfl (by decide) rfl ?_
      refine tk_iload_n X d_Core_branch_50 rfl rfl ?_
      refine tk_if_eq (tgt := 70) X d_Core_branch_51 (by decide) (fun _ => ?_) (fun h => absurd (by decide) h)
      exact tk_vret X hlk hr d_Core_branch_70 rfl (fun _ h => h) (Or.inr rfl) (kw_st ((if_neg h1).trans (if_pos h2)).symm rfl rfl)
    · skip
      refine tk_iconst (v := 1) X d_Core_branch_44 (by decide) ?_
      refine tk_goto (tgt := 49) X d_Core_branch_45 (by decide) ?_
      refine tk_istore_n X d_Core_branch_49 rfl (by decide) rfl ?_
      refine tk_iload_n X d_Core_branch_50 rfl rfl ?_
      refine tk_if_eq (tgt := 70) X d_Core_branch_51 (by decide) (fun h => absurd h (by decide)) (fun _ => ?_)
      refine tk_aload_n X d_Core_branch_54 rfl rfl ?_
      refine tk_aload_n X d_Core_branch_55 rfl rfl ?_
      refine tk_get X (k := (4, c, 0)) (dm := ks_dm P) (ks_d4 hc) rfl hc_Core hi_Core 6 (by decide) m_Core_51 (v := .int _) rfl d_Core_branch_56 ?_
      refine tk_iload_n X d_Core_branch_59 rfl rfl ?_
      refine tk_callSN X (c_TC_immediateOf l P hP x a b o) (ks_site (n := 1) mc_TC_immediateOf mi_TC (by decide +kernel) (by decide) (by decide)) n_Core_45 ms_TC_immediateOf rfl (Nat.le_of_ble_eq_true rfl) ⟨Nat.le_of_ble_eq_true rfl, Nat.le_of_ble_eq_true rfl⟩ rfl d_Core_branch_60 ?_
      refine tk_iadd X d_Core_branch_63 ?_
      refine tk_callSN X (c_TC_place l P hP _ a b o) (ks_site (n := 1) mc_TC_place mi_TC (by decide +kernel) (by decide) (by decide)) n_Core_54 ms_TC_place rfl (Nat.le_of_ble_eq_true rfl) ⟨Nat.le_of_ble_eq_true rfl, Nat.le_of_ble_eq_true rfl⟩ rfl d_Core_branch_64 ?_
      refine kw_put X (k := (4, c, 0)) (ks_d4 hc) rfl hc_Core hi_Core t_Core t_Core_ok n_Core 6 (by decide) rfl m_Core_51 rfl rfl rfl d_Core_branch_67 ?_
      exact tk_vret X hlk hr d_Core_branch_70 rfl (fun _ h => h) (Or.inr rfl) (kw_st ((if_neg h1).trans (if_neg h2)).symm rfl rfl)
  · skip
    refine tk_iload_n X d_Core_branch_19 rfl rfl ?_
    refine tk_if_ne (tgt := 27) X d_Core_branch_20 (by decide) (fun h3 => ?_) (fun h3 => ?_)
    · skip
      refine tk_iconst (v := 0) X d_Core_branch_27 (by decide) ?_
      refine tk_goto (tgt := 49) X d_Core_branch_28 (by decide) ?_
      refine tk_istore_n X d_Core_branch_49 rfl (by decide) rfl ?_
      refine tk_iload_n X d_Core_branch_50 rfl rfl ?_
      refine tk_if_eq (tgt := 70) X d_Core_branch_51 (by decide) (fun _ => ?_) (fun h => absurd (by decide) h)
      exact tk_vret X hlk hr d_Core_branch_70 rfl (fun _ h => h) (Or.inr rfl) (kw_st ((if_pos h1).trans (if_neg h3)).symm rfl rfl)
    · skip
      refine tk_iconst (v := 1) X d_Core_branch_23 (by decide) ?_
      refine tk_goto (tgt := 49) X d_Core_branch_24 (by decide) ?_
      refine tk_istore_n X d_Core_branch_49 rfl (by decide) rfl ?_
      refine tk_iload_n X d_Core_branch_50 rfl rfl ?_
      refine tk_if_eq (tgt := 70) X d_Core_branch_51 (by decide) (fun h => absurd h (by decide)) (fun _ => ?_)
      refine tk_aload_n X d_Core_branch_54 rfl rfl ?_
      refine tk_aload_n X d_Core_branch_55 rfl rfl ?_
      refine tk_get X (k := (4, c, 0)) (dm := ks_dm P) (ks_d4 hc) rfl hc_Core hi_Core 6 (by decide) m_Core_51 (v := .int _) rfl d_Core_branch_56 ?_
      refine tk_iload_n X d_Core_branch_59 rfl rfl ?_
      refine tk_callSN X (c_TC_immediateOf l P hP x a b o) (ks_site (n := 1) mc_TC_immediateOf mi_TC (by decide +kernel) (by decide) (by decide)) n_Core_45 ms_TC_immediateOf rfl (Nat.le_of_ble_eq_true rfl) ⟨Nat.le_of_ble_eq_true rfl, Nat.le_of_ble_eq_true rfl⟩ rfl d_Core_branch_60 ?_
      refine tk_iadd X d_Core_branch_63 ?_
      refine tk_callSN X (c_TC_place l P hP _ a b o) (ks_site (n := 1) mc_TC_place mi_TC (by decide +kernel) (by decide) (by decide)) n_Core_54 ms_TC_place rfl (Nat.le_of_ble_eq_true rfl) ⟨Nat.le_of_ble_eq_true rfl, Nat.le_of_ble_eq_true rfl⟩ rfl d_Core_branch_64 ?_
      refine kw_put X (k := (4, c, 0)) (ks_d4 hc) rfl hc_Core hi_Core t_Core t_Core_ok n_Core 6 (by decide) rfl m_Core_51 rfl rfl rfl d_Core_branch_67 ?_
      exact tk_vret X hlk hr d_Core_branch_70 rfl (fun _ h => h) (Or.inr rfl) (kw_st ((if_pos h1).trans (if_pos h3)).symm rfl rfl)

set_option maxRecDepth 100000 in
set_option maxHeartbeats 4000000 in
theorem c_Core_begin (l : Launch) (P : ks_P) (hP : ks_ok P) (c : Nat) (hc : c < ks_n P) (x : Int32) (a b : ks_M) (o : ks_O) : kc l P y_Core_begin b_Core_begin 2 (some .int) 2 [.ref (tk_ad (ks_G P) (4, c, 0)), .int x] a b o (some (.int (k_begin (ks_T P) a c x).1)) (k_begin (ks_T P) a c x).2 b o := by
  have hn64 := ks_n64 hP
  have hT64 := ks_T64 hP
  refine tk_of hP.2.2.2.2.2 (by decide) rfl (Nat.le_of_ble_eq_true rfl) ?_
  intro p e s m below meth c0 X hlk hr hnm
  refine tk_aload_n X d_Core_begin_0 rfl rfl ?_
  refine tk_get X (k := (4, c, 0)) (dm := ks_dm P) (ks_d4 hc) rfl hc_Core hi_Core 8 (by decide) m_Core_48 (v := .int _) rfl d_Core_begin_1 ?_
  refine tk_iconst (v := 3) X d_Core_begin_4 (by decide) ?_
  refine tk_icmp_ne (tgt := 15) X d_Core_begin_5 (by decide) (fun h1 => ?_) (fun h1 => ?_)
  · skip
    refine tk_aload_n X d_Core_begin_15 rfl rfl ?_
    refine tk_get X (k := (4, c, 0)) (dm := ks_dm P) (ks_d4 hc) rfl hc_Core hi_Core 8 (by decide) m_Core_48 (v := .int _) rfl d_Core_begin_16 ?_
    refine tk_if_ne (tgt := 50) X d_Core_begin_19 (by decide) (fun h2 => ?_) (fun h2 => ?_)
    · skip
      refine tk_aload_n X d_Core_begin_50 rfl rfl ?_
      refine tk_dup X rfl d_Core_begin_51 ?_
      refine tk_get X (k := (4, c, 0)) (dm := ks_dm P) (ks_d4 hc) rfl hc_Core hi_Core 8 (by decide) m_Core_48 (v := .int _) rfl d_Core_begin_52 ?_
      refine tk_iconst (v := 1) X d_Core_begin_55 (by decide) ?_
      refine tk_iadd X d_Core_begin_56 ?_
      refine kw_put X (k := (4, c, 0)) (ks_d4 hc) rfl hc_Core hi_Core t_Core t_Core_ok n_Core 8 (by decide) rfl m_Core_48 rfl rfl rfl d_Core_begin_57 ?_
      refine tk_iconst (v := 4) X d_Core_begin_60 (by decide) ?_
      have er : k_begin (ks_T P) a c x = _ := ((if_neg h1).trans (if_neg h2))
      exact tk_iret X hlk hr d_Core_begin_61 (by rw [er]) (fun _ h => h) (Or.inr rfl) (kw_st (by rw [er]; try rfl) rfl rfl)
    · skip
      refine tk_aload_n X d_Core_begin_22 rfl rfl ?_
      refine tk_get X (k := (4, c, 0)) (dm := ks_dm P) (ks_d4 hc) rfl hc_Core hi_Core 3 (by decide) m_Core_15 (v := .ref (tk_ad (ks_G P) (9, c, 0))) rfl d_Core_begin_23 ?_
      refine tk_iconst (v := 0) X d_Core_begin_26 (by decide) ?_
      refine tk_aload_n X d_Core_begin_27 rfl rfl ?_
      refine tk_get X (k := (4, c, 0)) (dm := ks_dm P) (ks_d4 hc) rfl hc_Core hi_Core 4 (by decide) m_Core_18 (v := .ref (tk_ad (ks_G P) (10, c, 0))) rfl d_Core_begin_28 ?_
      refine tk_iconst (v := 0) X d_Core_begin_31 (by decide) ?_
      refine tk_bipush (v := 8) X d_Core_begin_32 (by decide) ?_
      refine kw_copy X m_Core_61 (k0 := (9, c, 0)) (k1 := (10, c, 0)) (ks_d9 hc) (ks_d10 hc) rfl rfl (fun _ => rfl) (fun _ => rfl) (Nat.le_of_ble_eq_true rfl) (Nat.le_of_ble_eq_true rfl) d_Core_begin_34 ?_
      refine tk_aload_n X d_Core_begin_37 rfl rfl ?_
      refine tk_aload_n X d_Core_begin_38 rfl rfl ?_
      refine tk_get X (k := (4, c, 0)) (dm := ks_dm P) (ks_d4 hc) rfl hc_Core hi_Core 6 (by decide) m_Core_51 (v := .int _) rfl d_Core_begin_39 ?_
      refine tk_iload_n X d_Core_begin_42 rfl rfl ?_
      refine tk_iadd X d_Core_begin_43 ?_
      refine tk_callSN X (c_TC_place l P hP _ (k_cp a (9, c, 0) (10, c, 0) 8) b o) (ks_site (n := 1) mc_TC_place mi_TC (by decide +kernel) (by decide) (by decide)) n_Core_54 ms_TC_place rfl (Nat.le_of_ble_eq_true rfl) ⟨Nat.le_of_ble_eq_true rfl, Nat.le_of_ble_eq_true rfl⟩ rfl d_Core_begin_44 ?_
      refine kw_put X (k := (4, c, 0)) (ks_d4 hc) rfl hc_Core hi_Core t_Core t_Core_ok n_Core 7 (by decide) rfl m_Core_67 rfl rfl rfl d_Core_begin_47 ?_
      refine tk_aload_n X d_Core_begin_50 rfl rfl ?_
      refine tk_dup X rfl d_Core_begin_51 ?_
      refine tk_get X (k := (4, c, 0)) (dm := ks_dm P) (ks_d4 hc) rfl hc_Core hi_Core 8 (by decide) m_Core_48 (v := .int _) rfl d_Core_begin_52 ?_
      refine tk_iconst (v := 1) X d_Core_begin_55 (by decide) ?_
      refine tk_iadd X d_Core_begin_56 ?_
      refine kw_put X (k := (4, c, 0)) (ks_d4 hc) rfl hc_Core hi_Core t_Core t_Core_ok n_Core 8 (by decide) rfl m_Core_48 rfl rfl rfl d_Core_begin_57 ?_
      refine tk_iconst (v := 4) X d_Core_begin_60 (by decide) ?_
      have er : k_begin (ks_T P) a c x = _ := ((if_neg h1).trans (if_pos h2))
      exact tk_iret X hlk hr d_Core_begin_61 (by rw [er]) (fun _ h => h) (Or.inr rfl) (kw_st (by rw [er]; try rfl) rfl rfl)
  · skip
    refine tk_aload_n X d_Core_begin_8 rfl rfl ?_
    refine tk_iconst (v := 3) X d_Core_begin_9 (by decide) ?_
    refine tk_iconst (v := 0) X d_Core_begin_10 (by decide) ?_
    refine tk_callV X (kb := (4, c, 0)) (ks_d4 hc) rfl hc_Core (c_Core_abort l P hP c hc 3 (by decide) 0 a b o) (ks_site (n := 2) mc_Core_abort mi_Core (by decide +kernel) (by decide) (by decide)) m_Core_57 ms_Core_abort mv_Core_abort rfl (Nat.le_of_ble_eq_true rfl) ⟨Nat.le_of_ble_eq_true rfl, Nat.le_of_ble_eq_true rfl⟩ rfl d_Core_begin_11 ?_
    have er : k_begin (ks_T P) a c x = _ := (if_pos h1)
    exact tk_iret X hlk hr d_Core_begin_14 (by rw [er]) (fun _ h => h) (Or.inr rfl) (kw_st (by rw [er]; try rfl) rfl rfl)

set_option maxRecDepth 100000 in
set_option maxHeartbeats 4000000 in
theorem c_Core_end (l : Launch) (P : ks_P) (hP : ks_ok P) (c : Nat) (hc : c < ks_n P) (a b : ks_M) (o : ks_O) : kc l P y_Core_end b_Core_end 1 (some .int) 1 [.ref (tk_ad (ks_G P) (4, c, 0))] a b o (some (.int (k_end (ks_T P) a c).1)) (k_end (ks_T P) a c).2 b o := by
  have hn64 := ks_n64 hP
  have hT64 := ks_T64 hP
  refine tk_of hP.2.2.2.2.2 (by decide) rfl (Nat.le_of_ble_eq_true rfl) ?_
  intro p e s m below meth c0 X hlk hr hnm
  refine tk_aload_n X d_Core_end_0 rfl rfl ?_
  refine tk_dup X rfl d_Core_end_1 ?_
  refine tk_get X (k := (4, c, 0)) (dm := ks_dm P) (ks_d4 hc) rfl hc_Core hi_Core 8 (by decide) m_Core_48 (v := .int _) rfl d_Core_end_2 ?_
  refine tk_iconst (v := 1) X d_Core_end_5 (by decide) ?_
  refine tk_isub X d_Core_end_6 ?_
  refine kw_put X (k := (4, c, 0)) (ks_d4 hc) rfl hc_Core hi_Core t_Core t_Core_ok n_Core 8 (by decide) rfl m_Core_48 rfl rfl rfl d_Core_end_7 ?_
  refine tk_aload_n X d_Core_end_10 rfl rfl ?_
  refine tk_get X (k := (4, c, 0)) (dm := ks_dm P) (ks_d4 hc) rfl hc_Core hi_Core 8 (by decide) m_Core_48 (v := .int _) rfl d_Core_end_11 ?_
  refine tk_if_le (tgt := 19) X d_Core_end_14 (by decide) (fun h1 => ?_) (fun h1 => ?_)
  · skip
    refine tk_aload_n X d_Core_end_19 rfl rfl ?_
    refine tk_get X (k := (4, c, 0)) (dm := ks_dm P) (ks_d4 hc) rfl hc_Core hi_Core 1 (by decide) m_Core_28 (v := .ref (tk_ad (ks_G P) (5, c, 0))) rfl d_Core_end_20 ?_
    refine tk_callV X (kb := (5, c, 0)) (ks_d5 hc) rfl hc_Cache (c_Cache_dropMarks l P hP c hc (k_end1 a c) b o) (ks_site (n := 0) mc_Cache_dropMarks mi_Cache (by decide +kernel) (by decide) (by decide)) m_Core_70 ms_Cache_dropMarks mv_Cache_dropMarks rfl (Nat.le_of_ble_eq_true rfl) ⟨Nat.le_of_ble_eq_true rfl, Nat.le_of_ble_eq_true rfl⟩ rfl d_Core_end_23 ?_
    refine tk_aload_n X d_Core_end_26 rfl rfl ?_
    refine tk_get X (k := (4, c, 0)) (dm := ks_dm P) (ks_d4 hc) rfl hc_Core hi_Core 5 (by decide) m_Core_21 (v := .ref (tk_ad (ks_G P) (11, c, 0))) rfl d_Core_end_27 ?_
    refine tk_iconst (v := 0) X d_Core_end_30 (by decide) ?_
    refine tk_dup2 X rfl rfl d_Core_end_31 ?_
    refine kw_iald X (k := (11, c, 0)) (ks_d11 hc) rfl (by decide) rfl (by decide) (v := _) rfl d_Core_end_32 ?_
    refine tk_iconst (v := 1) X d_Core_end_33 (by decide) ?_
    refine tk_iadd X d_Core_end_34 ?_
    refine kw_iast X (k := (11, c, 0)) (ks_d11 hc) rfl (by decide) rfl (by decide) rfl d_Core_end_35 ?_
    refine tk_iconst (v := 3) X d_Core_end_36 (by decide) ?_
    have er : k_end (ks_T P) a c = _ := (if_pos h1)
    exact tk_iret X hlk hr d_Core_end_37 (by rw [er]) (fun _ h => h) (Or.inr rfl) (kw_st (by rw [er]; try rfl) rfl rfl)
  · skip
    refine tk_iconst (v := 4) X d_Core_end_17 (by decide) ?_
    have er : k_end (ks_T P) a c = _ := (if_neg h1)
    exact tk_iret X hlk hr d_Core_end_18 (by rw [er]) (fun _ h => h) (Or.inr rfl) (kw_st (by rw [er]; try rfl) rfl rfl)

set_option maxRecDepth 100000 in
set_option maxHeartbeats 4000000 in
theorem c_Core_giveUp (l : Launch) (P : ks_P) (hP : ks_ok P) (c : Nat) (hc : c < ks_n P) (x : Int32) (a b : ks_M) (o : ks_O) : kc l P y_Core_giveUp b_Core_giveUp 2 (some .int) 2 [.ref (tk_ad (ks_G P) (4, c, 0)), .int x] a b o (some (.int (k_give (ks_T P) a c x).1)) (k_give (ks_T P) a c x).2 b o := by
  have hn64 := ks_n64 hP
  have hT64 := ks_T64 hP
  refine tk_of hP.2.2.2.2.2 (by decide) rfl (Nat.le_of_ble_eq_true rfl) ?_
  intro p e s m below meth c0 X hlk hr hnm
  refine tk_aload_n X d_Core_giveUp_0 rfl rfl ?_
  refine tk_get X (k := (4, c, 0)) (dm := ks_dm P) (ks_d4 hc) rfl hc_Core hi_Core 8 (by decide) m_Core_48 (v := .int _) rfl d_Core_giveUp_1 ?_
  refine tk_if_ne (tgt := 9) X d_Core_giveUp_4 (by decide) (fun h1 => ?_) (fun h1 => ?_)
  · skip
    refine tk_aload_n X d_Core_giveUp_9 rfl rfl ?_
    refine tk_iconst (v := 4) X d_Core_giveUp_10 (by decide) ?_
    refine tk_bipush (v := 8) X d_Core_giveUp_11 (by decide) ?_
    refine tk_iload_n X d_Core_giveUp_13 rfl rfl ?_
    refine tk_sipush (v := 255) X d_Core_giveUp_14 (by decide) ?_
    refine tk_iand X d_Core_giveUp_17 ?_
    refine tk_imul X d_Core_giveUp_18 ?_
    refine tk_callV X (kb := (4, c, 0)) (ks_d4 hc) rfl hc_Core (c_Core_abort l P hP c hc 4 (by decide) _ a b o) (ks_site (n := 2) mc_Core_abort mi_Core (by decide +kernel) (by decide) (by decide)) m_Core_57 ms_Core_abort mv_Core_abort rfl (Nat.le_of_ble_eq_true rfl) ⟨Nat.le_of_ble_eq_true rfl, Nat.le_of_ble_eq_true rfl⟩ rfl d_Core_giveUp_19 ?_
    have er : k_give (ks_T P) a c x = _ := (if_neg h1)
    exact tk_iret X hlk hr d_Core_giveUp_22 (by rw [er]) (fun _ h => h) (Or.inr rfl) (kw_st (by rw [er]; try rfl) rfl rfl)
  · skip
    refine tk_iconst (v := 4) X d_Core_giveUp_7 (by decide) ?_
    have er : k_give (ks_T P) a c x = _ := (if_pos h1)
    exact tk_iret X hlk hr d_Core_giveUp_8 (by rw [er]) (fun _ h => h) (Or.inr rfl) (kw_st (by rw [er]; try rfl) rfl rfl)

set_option maxRecDepth 100000 in
set_option maxHeartbeats 4000000 in
theorem c_Core_fault (l : Launch) (P : ks_P) (hP : ks_ok P) (c : Nat) (hc : c < ks_n P) (x : Int32) (a b : ks_M) (o : ks_O) : kc l P y_Core_fault b_Core_fault 2 (some .int) 2 [.ref (tk_ad (ks_G P) (4, c, 0)), .int x] a b o (some (.int (k_fault (ks_T P) a c x).1)) (k_fault (ks_T P) a c x).2 b o := by
  have hn64 := ks_n64 hP
  have hT64 := ks_T64 hP
  refine tk_of hP.2.2.2.2.2 (by decide) rfl (Nat.le_of_ble_eq_true rfl) ?_
  intro p e s m below meth c0 X hlk hr hnm
  refine tk_aload_n X d_Core_fault_0 rfl rfl ?_
  refine tk_get X (k := (4, c, 0)) (dm := ks_dm P) (ks_d4 hc) rfl hc_Core hi_Core 8 (by decide) m_Core_48 (v := .int _) rfl d_Core_fault_1 ?_
  refine tk_if_le (tgt := 14) X d_Core_fault_4 (by decide) (fun h1 => ?_) (fun h1 => ?_)
  · skip
    refine tk_aload_n X d_Core_fault_14 rfl rfl ?_
    refine tk_iconst (v := 1) X d_Core_fault_15 (by decide) ?_
    refine kw_put X (k := (4, c, 0)) (ks_d4 hc) rfl hc_Core hi_Core t_Core t_Core_ok n_Core 9 (by decide) rfl m_Core_75 rfl (by decide) (by decide) d_Core_fault_16 ?_
    refine tk_aload_n X d_Core_fault_19 rfl rfl ?_
    refine tk_iload_n X d_Core_fault_20 rfl rfl ?_
    refine kw_put X (k := (4, c, 0)) (ks_d4 hc) rfl hc_Core hi_Core t_Core t_Core_ok n_Core 6 (by decide) rfl m_Core_51 rfl rfl rfl d_Core_fault_21 ?_
    refine tk_iconst (v := 0) X d_Core_fault_24 (by decide) ?_
    have er : k_fault (ks_T P) a c x = _ := (if_pos h1)
    exact tk_iret X hlk hr d_Core_fault_25 (by rw [er]) (fun _ h => h) (Or.inr rfl) (kw_st (by rw [er]; try rfl) rfl rfl)
  · skip
    refine tk_aload_n X d_Core_fault_7 rfl rfl ?_
    refine tk_iconst (v := 5) X d_Core_fault_8 (by decide) ?_
    refine tk_iconst (v := 0) X d_Core_fault_9 (by decide) ?_
    refine tk_callV X (kb := (4, c, 0)) (ks_d4 hc) rfl hc_Core (c_Core_abort l P hP c hc 5 (by decide) 0 a b o) (ks_site (n := 2) mc_Core_abort mi_Core (by decide +kernel) (by decide) (by decide)) m_Core_57 ms_Core_abort mv_Core_abort rfl (Nat.le_of_ble_eq_true rfl) ⟨Nat.le_of_ble_eq_true rfl, Nat.le_of_ble_eq_true rfl⟩ rfl d_Core_fault_10 ?_
    have er : k_fault (ks_T P) a c x = _ := (if_neg h1)
    exact tk_iret X hlk hr d_Core_fault_13 (by rw [er]) (fun _ h => h) (Or.inr rfl) (kw_st (by rw [er]; try rfl) rfl rfl)
end
section
theorem c_TC_lineOf2 (l : Launch) (P : ks_P) (hP : ks_ok P) (x : Int32) (a b : ks_M) (o : ks_O) : kc l P y_TC_lineOf b_TC_lineOf 1 (some .int) 0 [.int x] a b o (some (.int (nI (q_ln x)))) a b o := by
  rw [← q_ln_eq]
  exact c_TC_lineOf l P hP x a b o

set_option maxRecDepth 100000 in
set_option maxHeartbeats 4000000 in
theorem c_TC_refill (l : Launch) (P : ks_P) (hP : ks_ok P) (c j : Nat) (hc : c < ks_n P) (hj : j < ks_T P) (x : Int32) (a b : ks_M) (o : ks_O) : kc l P y_TC_refill b_TC_refill 3 none 2 [.ref (tk_ad (ks_G P) (0, 0, 0)), .ref (tk_ad (ks_G P) (7, c, j)), .int x] a b o (none) (k_refill a c j x) b o := by
  have hn64 := ks_n64 hP
  have hT64 := ks_T64 hP
  refine tk_of hP.2.2.2.2.2 (by decide) rfl (Nat.le_of_ble_eq_true rfl) ?_
  intro p e s m below meth c0 X hlk hr hnm
  refine tk_aload_n X d_TC_refill_0 rfl rfl ?_
  refine tk_getN X (k := (7, c, j)) (dm := ks_dm P) (ks_d7 hc hj) rfl hc_Way hi_Way 0 (by decide) n_TC_62 (v := .int _) rfl d_TC_refill_1 ?_
  refine tk_iconst (v := 2) X d_TC_refill_4 (by decide) ?_
  refine tk_icmp_ne (tgt := 16) X d_TC_refill_5 (by decide) (fun h1 => ?_) (fun h1 => ?_)
  · skip
    refine tk_aload_n X d_TC_refill_16 rfl rfl ?_
    refine tk_get X (k := (0, 0, 0)) (dm := ks_dm P) (ks_d0 (by decide)) rfl hc_TC hi_TC 0 (by decide) m_TC_16 (v := .ref (tk_ad (ks_G P) (1, 0, 0))) rfl d_TC_refill_17 ?_
    refine tk_aload_n X d_TC_refill_20 rfl rfl ?_
    refine tk_iload_n X d_TC_refill_21 rfl rfl ?_
    refine tk_callV X (kb := (1, 0, 0)) (ks_d0 (by decide)) rfl hc_Store (c_Store_fill l P hP c j hc hj x _ b o) (ks_site (n := 2) mc_Store_fill mi_Store (by decide +kernel) (by decide) (by decide)) m_TC_211 ms_Store_fill mv_Store_fill rfl (Nat.le_of_ble_eq_true rfl) ⟨Nat.le_of_ble_eq_true rfl, Nat.le_of_ble_eq_true rfl⟩ rfl d_TC_refill_22 ?_
    refine tk_aload_n X d_TC_refill_25 rfl rfl ?_
    refine tk_iconst (v := 1) X d_TC_refill_26 (by decide) ?_
    refine kw_putN X (k := (7, c, j)) (ks_d7 hc hj) rfl hc_Way hi_Way t_Way t_Way_ok n_Way 0 (by decide) rfl n_TC_62 rfl rfl rfl d_TC_refill_27 ?_
    have e1 : k_kp a c j = _ := if_neg h1
    exact tk_vret X hlk hr d_TC_refill_30 rfl (fun _ h => h) (Or.inr rfl) (kw_st (by rw [k_refill, e1]) rfl rfl)
  · skip
    refine tk_aload_n X d_TC_refill_8 rfl rfl ?_
    refine tk_get X (k := (0, 0, 0)) (dm := ks_dm P) (ks_d0 (by decide)) rfl hc_TC hi_TC 0 (by decide) m_TC_16 (v := .ref (tk_ad (ks_G P) (1, 0, 0))) rfl d_TC_refill_9 ?_
    refine tk_aload_n X d_TC_refill_12 rfl rfl ?_
    refine tk_callV X (kb := (1, 0, 0)) (ks_d0 (by decide)) rfl hc_Store (c_Store_keep l P hP c j hc hj a b o) (ks_site (n := 1) mc_Store_keep mi_Store (by decide +kernel) (by decide) (by decide)) m_TC_207 ms_Store_keep mv_Store_keep rfl (Nat.le_of_ble_eq_true rfl) ⟨Nat.le_of_ble_eq_true rfl, Nat.le_of_ble_eq_true rfl⟩ rfl d_TC_refill_13 ?_
    refine tk_aload_n X d_TC_refill_16 rfl rfl ?_
    refine tk_get X (k := (0, 0, 0)) (dm := ks_dm P) (ks_d0 (by decide)) rfl hc_TC hi_TC 0 (by decide) m_TC_16 (v := .ref (tk_ad (ks_G P) (1, 0, 0))) rfl d_TC_refill_17 ?_
    refine tk_aload_n X d_TC_refill_20 rfl rfl ?_
    refine tk_iload_n X d_TC_refill_21 rfl rfl ?_
    refine tk_callV X (kb := (1, 0, 0)) (ks_d0 (by decide)) rfl hc_Store (c_Store_fill l P hP c j hc hj x _ b o) (ks_site (n := 2) mc_Store_fill mi_Store (by decide +kernel) (by decide) (by decide)) m_TC_211 ms_Store_fill mv_Store_fill rfl (Nat.le_of_ble_eq_true rfl) ⟨Nat.le_of_ble_eq_true rfl, Nat.le_of_ble_eq_true rfl⟩ rfl d_TC_refill_22 ?_
    refine tk_aload_n X d_TC_refill_25 rfl rfl ?_
    refine tk_iconst (v := 1) X d_TC_refill_26 (by decide) ?_
    refine kw_putN X (k := (7, c, j)) (ks_d7 hc hj) rfl hc_Way hi_Way t_Way t_Way_ok n_Way 0 (by decide) rfl n_TC_62 rfl rfl rfl d_TC_refill_27 ?_
    have e1 : k_kp a c j = _ := if_pos h1
    exact tk_vret X hlk hr d_TC_refill_30 rfl (fun _ h => h) (Or.inr rfl) (kw_st (by rw [k_refill, e1]) rfl rfl)

set_option maxRecDepth 100000 in
set_option maxHeartbeats 4000000 in
theorem c_TC_makeModified (l : Launch) (P : ks_P) (hP : ks_ok P) (c j : Nat) (hc : c < ks_n P) (hj : j < ks_T P) (w : Bool) (a b : ks_M) (o : ks_O) : kc l P y_TC_makeModified b_TC_makeModified 3 none 2 [.ref (tk_ad (ks_G P) (0, 0, 0)), .ref (tk_ad (ks_G P) (7, c, j)), .int (q_b w)] a b o (none) (k_modify a c j w) b o := by
  have hn64 := ks_n64 hP
  have hT64 := ks_T64 hP
  cases w with
  | false =>
    refine tk_of hP.2.2.2.2.2 (by decide) rfl (Nat.le_of_ble_eq_true rfl) ?_
    intro p e s m below meth c0 X hlk hr hnm
    refine tk_iload_n X d_TC_makeModified_0 rfl rfl ?_
    refine tk_if_eq (tgt := 29) X d_TC_makeModified_1 (by decide) (fun _ => ?_) (fun h => absurd (by decide) h)
    refine tk_aload_n X d_TC_makeModified_29 rfl rfl ?_
    refine tk_iconst (v := 2) X d_TC_makeModified_30 (by decide) ?_
    refine kw_putN X (k := (7, c, j)) (ks_d7 hc hj) rfl hc_Way hi_Way t_Way t_Way_ok n_Way 0 (by decide) rfl n_TC_62 rfl rfl rfl d_TC_makeModified_31 ?_
    have e1 : k_kp2 a c j false = _ := (if_neg (by decide))
    exact tk_vret X hlk hr d_TC_makeModified_34 rfl (fun _ h => h) (Or.inr rfl) (kw_st (by rw [k_modify, e1]) rfl rfl)
  | true =>
    refine tk_of hP.2.2.2.2.2 (by decide) rfl (Nat.le_of_ble_eq_true rfl) ?_
    intro p e s m below meth c0 X hlk hr hnm
    refine tk_iload_n X d_TC_makeModified_0 rfl rfl ?_
    refine tk_if_eq (tgt := 29) X d_TC_makeModified_1 (by decide) (fun h => absurd h (by decide)) (fun _ => ?_)
    refine tk_aload_n X d_TC_makeModified_4 rfl rfl ?_
    refine tk_getN X (k := (7, c, j)) (dm := ks_dm P) (ks_d7 hc hj) rfl hc_Way hi_Way 0 (by decide) n_TC_62 (v := .int _) rfl d_TC_makeModified_5 ?_
    refine tk_iconst (v := 2) X d_TC_makeModified_8 (by decide) ?_
    refine tk_icmp_ne (tgt := 29) X d_TC_makeModified_9 (by decide) (fun h1 => ?_) (fun h1 => ?_)
    · skip
      refine tk_aload_n X d_TC_makeModified_29 rfl rfl ?_
      refine tk_iconst (v := 2) X d_TC_makeModified_30 (by decide) ?_
      refine kw_putN X (k := (7, c, j)) (ks_d7 hc hj) rfl hc_Way hi_Way t_Way t_Way_ok n_Way 0 (by decide) rfl n_TC_62 rfl rfl rfl d_TC_makeModified_31 ?_
      have e1 : k_kp2 a c j true = _ := ((if_pos rfl).trans (if_neg h1))
      exact tk_vret X hlk hr d_TC_makeModified_34 rfl (fun _ h => h) (Or.inr rfl) (kw_st (by rw [k_modify, e1]) rfl rfl)
    · skip
      refine tk_aload_n X d_TC_makeModified_12 rfl rfl ?_
      refine tk_getN X (k := (7, c, j)) (dm := ks_dm P) (ks_d7 hc hj) rfl hc_Way hi_Way 2 (by decide) n_TC_68 (v := .int _) rfl d_TC_makeModified_13 ?_
      refine tk_iconst (v := 2) X d_TC_makeModified_16 (by decide) ?_
      refine tk_iand X d_TC_makeModified_17 ?_
      refine tk_if_ne (tgt := 29) X d_TC_makeModified_18 (by decide) (fun h2 => ?_) (fun h2 => ?_)
      · skip
        refine tk_aload_n X d_TC_makeModified_29 rfl rfl ?_
        refine tk_iconst (v := 2) X d_TC_makeModified_30 (by decide) ?_
        refine kw_putN X (k := (7, c, j)) (ks_d7 hc hj) rfl hc_Way hi_Way t_Way t_Way_ok n_Way 0 (by decide) rfl n_TC_62 rfl rfl rfl d_TC_makeModified_31 ?_
        have e1 : k_kp2 a c j true = _ := (((if_pos rfl).trans (if_pos h1)).trans (if_neg h2))
        exact tk_vret X hlk hr d_TC_makeModified_34 rfl (fun _ h => h) (Or.inr rfl) (kw_st (by rw [k_modify, e1]) rfl rfl)
      · skip
        refine tk_aload_n X d_TC_makeModified_21 rfl rfl ?_
        refine tk_get X (k := (0, 0, 0)) (dm := ks_dm P) (ks_d0 (by decide)) rfl hc_TC hi_TC 0 (by decide) m_TC_16 (v := .ref (tk_ad (ks_G P) (1, 0, 0))) rfl d_TC_makeModified_22 ?_
        refine tk_aload_n X d_TC_makeModified_25 rfl rfl ?_
        refine tk_callV X (kb := (1, 0, 0)) (ks_d0 (by decide)) rfl hc_Store (c_Store_keep l P hP c j hc hj a b o) (ks_site (n := 1) mc_Store_keep mi_Store (by decide +kernel) (by decide) (by decide)) m_TC_207 ms_Store_keep mv_Store_keep rfl (Nat.le_of_ble_eq_true rfl) ⟨Nat.le_of_ble_eq_true rfl, Nat.le_of_ble_eq_true rfl⟩ rfl d_TC_makeModified_26 ?_
        refine tk_aload_n X d_TC_makeModified_29 rfl rfl ?_
        refine tk_iconst (v := 2) X d_TC_makeModified_30 (by decide) ?_
        refine kw_putN X (k := (7, c, j)) (ks_d7 hc hj) rfl hc_Way hi_Way t_Way t_Way_ok n_Way 0 (by decide) rfl n_TC_62 rfl rfl rfl d_TC_makeModified_31 ?_
        have e1 : k_kp2 a c j true = _ := (((if_pos rfl).trans (if_pos h1)).trans (if_pos h2))
        exact tk_vret X hlk hr d_TC_makeModified_34 rfl (fun _ h => h) (Or.inr rfl) (kw_st (by rw [k_modify, e1]) rfl rfl)

set_option maxRecDepth 100000 in
set_option maxHeartbeats 4000000 in
theorem c_TC_meetRequest (l : Launch) (P : ks_P) (hP : ks_ok P) (c j : Nat) (hc : c < ks_n P) (hj : j < ks_T P) (w : Bool) (a b : ks_M) (o : ks_O) : kc l P y_TC_meetRequest b_TC_meetRequest 4 none 2 [.ref (tk_ad (ks_G P) (0, 0, 0)), .ref (tk_ad (ks_G P) (4, c, 0)), .ref (tk_ad (ks_G P) (7, c, j)), .int (q_b w)] a b o (none) (k_meet (ks_T P) a c j w) b o := by
  have hn64 := ks_n64 hP
  have hT64 := ks_T64 hP
  cases w with
  | false =>
    refine tk_of hP.2.2.2.2.2 (by decide) rfl (Nat.le_of_ble_eq_true rfl) ?_
    intro p e s m below meth c0 X hlk hr hnm
    refine tk_aload_n X d_TC_meetRequest_0 rfl rfl ?_
    refine tk_getN X (k := (7, c, j)) (dm := ks_dm P) (ks_d7 hc hj) rfl hc_Way hi_Way 2 (by decide) n_TC_68 (v := .int _) rfl d_TC_meetRequest_1 ?_
    refine tk_iconst (v := 2) X d_TC_meetRequest_4 (by decide) ?_
    refine tk_iand X d_TC_meetRequest_5 ?_
    refine tk_if_ne (tgt := 20) X d_TC_meetRequest_6 (by decide) (fun h1 => ?_) (fun h1 => ?_)
    · skip
      refine tk_aload_n X d_TC_meetRequest_20 rfl rfl ?_
      refine tk_iconst (v := 1) X d_TC_meetRequest_21 (by decide) ?_
      refine tk_iconst (v := 0) X d_TC_meetRequest_22 (by decide) ?_
      refine tk_callV X (kb := (4, c, 0)) (ks_d4 hc) rfl hc_Core (c_Core_abort l P hP c hc 1 (by decide) 0 a b o) (ks_site (n := 2) mc_Core_abort mi_Core (by decide +kernel) (by decide) (by decide)) m_TC_187 ms_Core_abort mv_Core_abort rfl (Nat.le_of_ble_eq_true rfl) ⟨Nat.le_of_ble_eq_true rfl, Nat.le_of_ble_eq_true rfl⟩ rfl d_TC_meetRequest_23 ?_
      refine tk_pop X rfl d_TC_meetRequest_26 ?_
      refine tk_aload_n X d_TC_meetRequest_27 rfl rfl ?_
      refine tk_getN X (k := (7, c, j)) (dm := ks_dm P) (ks_d7 hc hj) rfl hc_Way hi_Way 0 (by decide) n_TC_62 (v := .int _) rfl d_TC_meetRequest_28 ?_
      refine tk_if_ne (tgt := 35) X d_TC_meetRequest_31 (by decide) (fun h2 => ?_) (fun h2 => ?_)
      · skip
        refine tk_aload_n X d_TC_meetRequest_35 rfl rfl ?_
        refine tk_getN X (k := (7, c, j)) (dm := ks_dm P) (ks_d7 hc hj) rfl hc_Way hi_Way 0 (by decide) n_TC_62 (v := .int _) rfl d_TC_meetRequest_36 ?_
        refine tk_iconst (v := 2) X d_TC_meetRequest_39 (by decide) ?_
        refine tk_icmp_ne (tgt := 51) X d_TC_meetRequest_40 (by decide) (fun h3 => ?_) (fun h3 => ?_)
        · skip
          refine tk_aload_n X d_TC_meetRequest_51 rfl rfl ?_
          refine tk_iload_n X d_TC_meetRequest_52 rfl rfl ?_
          refine tk_if_eq (tgt := 60) X d_TC_meetRequest_53 (by decide) (fun _ => ?_) (fun h => absurd (by decide) h)
          refine tk_iconst (v := 1) X d_TC_meetRequest_60 (by decide) ?_
          refine kw_putN X (k := (7, c, j)) (ks_d7 hc hj) rfl hc_Way hi_Way t_Way t_Way_ok n_Way 0 (by decide) rfl n_TC_62 rfl rfl rfl d_TC_meetRequest_61 ?_
          have e1 : k_meet1 (ks_T P) a c j false = (k_abort (ks_T P) a c 1 0) := (if_neg h1)
          have e2 : k_kp (k_abort (ks_T P) a c 1 0) c j = _ := if_neg h3
          exact tk_vret X hlk hr d_TC_meetRequest_64 rfl (fun _ h => h) (Or.inr rfl) (kw_st (by rw [k_meet, e1]; refine Eq.trans ?_ (if_neg h2).symm; rw [e2]; rfl) rfl rfl)
        · skip
          refine tk_aload_n X d_TC_meetRequest_43 rfl rfl ?_
          refine tk_get X (k := (0, 0, 0)) (dm := ks_dm P) (ks_d0 (by decide)) rfl hc_TC hi_TC 0 (by decide) m_TC_16 (v := .ref (tk_ad (ks_G P) (1, 0, 0))) rfl d_TC_meetRequest_44 ?_
          refine tk_aload_n X d_TC_meetRequest_47 rfl rfl ?_
          refine tk_callV X (kb := (1, 0, 0)) (ks_d0 (by decide)) rfl hc_Store (c_Store_keep l P hP c j hc hj _ b o) (ks_site (n := 1) mc_Store_keep mi_Store (by decide +kernel) (by decide) (by decide)) m_TC_207 ms_Store_keep mv_Store_keep rfl (Nat.le_of_ble_eq_true rfl) ⟨Nat.le_of_ble_eq_true rfl, Nat.le_of_ble_eq_true rfl⟩ rfl d_TC_meetRequest_48 ?_
          refine tk_aload_n X d_TC_meetRequest_51 rfl rfl ?_
          refine tk_iload_n X d_TC_meetRequest_52 rfl rfl ?_
          refine tk_if_eq (tgt := 60) X d_TC_meetRequest_53 (by decide) (fun _ => ?_) (fun h => absurd (by decide) h)
          refine tk_iconst (v := 1) X d_TC_meetRequest_60 (by decide) ?_
          refine kw_putN X (k := (7, c, j)) (ks_d7 hc hj) rfl hc_Way hi_Way t_Way t_Way_ok n_Way 0 (by decide) rfl n_TC_62 rfl rfl rfl d_TC_meetRequest_61 ?_
          have e1 : k_meet1 (ks_T P) a c j false = (k_abort (ks_T P) a c 1 0) := (if_neg h1)
          have e2 : k_kp (k_abort (ks_T P) a c 1 0) c j = _ := if_pos h3
          exact tk_vret X hlk hr d_TC_meetRequest_64 rfl (fun _ h => h) (Or.inr rfl) (kw_st (by rw [k_meet, e1]; refine Eq.trans ?_ (if_neg h2).symm; rw [e2]; rfl) rfl rfl)
      · skip
        have e1 : k_meet1 (ks_T P) a c j false = (k_abort (ks_T P) a c 1 0) := (if_neg h1)
        exact tk_vret X hlk hr d_TC_meetRequest_34 rfl (fun _ h => h) (Or.inr rfl) (kw_st (by rw [k_meet, e1]; exact (if_pos h2).symm) rfl rfl)
    · skip
      refine tk_iload_n X d_TC_meetRequest_9 rfl rfl ?_
      refine tk_if_eq (tgt := 27) X d_TC_meetRequest_10 (by decide) (fun _ => ?_) (fun h => absurd (by decide) h)
      refine tk_aload_n X d_TC_meetRequest_27 rfl rfl ?_
      refine tk_getN X (k := (7, c, j)) (dm := ks_dm P) (ks_d7 hc hj) rfl hc_Way hi_Way 0 (by decide) n_TC_62 (v := .int _) rfl d_TC_meetRequest_28 ?_
      refine tk_if_ne (tgt := 35) X d_TC_meetRequest_31 (by decide) (fun h4 => ?_) (fun h4 => ?_)
      · skip
        refine tk_aload_n X d_TC_meetRequest_35 rfl rfl ?_
        refine tk_getN X (k := (7, c, j)) (dm := ks_dm P) (ks_d7 hc hj) rfl hc_Way hi_Way 0 (by decide) n_TC_62 (v := .int _) rfl d_TC_meetRequest_36 ?_
        refine tk_iconst (v := 2) X d_TC_meetRequest_39 (by decide) ?_
        refine tk_icmp_ne (tgt := 51) X d_TC_meetRequest_40 (by decide) (fun h5 => ?_) (fun h5 => ?_)
        · skip
          refine tk_aload_n X d_TC_meetRequest_51 rfl rfl ?_
          refine tk_iload_n X d_TC_meetRequest_52 rfl rfl ?_
          refine tk_if_eq (tgt := 60) X d_TC_meetRequest_53 (by decide) (fun _ => ?_) (fun h => absurd (by decide) h)
          refine tk_iconst (v := 1) X d_TC_meetRequest_60 (by decide) ?_
          refine kw_putN X (k := (7, c, j)) (ks_d7 hc hj) rfl hc_Way hi_Way t_Way t_Way_ok n_Way 0 (by decide) rfl n_TC_62 rfl rfl rfl d_TC_meetRequest_61 ?_
          have e1 : k_meet1 (ks_T P) a c j false = a := ((if_pos h1).trans (if_neg (by decide)))
          have e2 : k_kp a c j = _ := if_neg h5
          exact tk_vret X hlk hr d_TC_meetRequest_64 rfl (fun _ h => h) (Or.inr rfl) (kw_st (by rw [k_meet, e1]; refine Eq.trans ?_ (if_neg h4).symm; rw [e2]; rfl) rfl rfl)
        · skip
          refine tk_aload_n X d_TC_meetRequest_43 rfl rfl ?_
          refine tk_get X (k := (0, 0, 0)) (dm := ks_dm P) (ks_d0 (by decide)) rfl hc_TC hi_TC 0 (by decide) m_TC_16 (v := .ref (tk_ad (ks_G P) (1, 0, 0))) rfl d_TC_meetRequest_44 ?_
          refine tk_aload_n X d_TC_meetRequest_47 rfl rfl ?_
          refine tk_callV X (kb := (1, 0, 0)) (ks_d0 (by decide)) rfl hc_Store (c_Store_keep l P hP c j hc hj _ b o) (ks_site (n := 1) mc_Store_keep mi_Store (by decide +kernel) (by decide) (by decide)) m_TC_207 ms_Store_keep mv_Store_keep rfl (Nat.le_of_ble_eq_true rfl) ⟨Nat.le_of_ble_eq_true rfl, Nat.le_of_ble_eq_true rfl⟩ rfl d_TC_meetRequest_48 ?_
          refine tk_aload_n X d_TC_meetRequest_51 rfl rfl ?_
          refine tk_iload_n X d_TC_meetRequest_52 rfl rfl ?_
          refine tk_if_eq (tgt := 60) X d_TC_meetRequest_53 (by decide) (fun _ => ?_) (fun h => absurd (by decide) h)
          refine tk_iconst (v := 1) X d_TC_meetRequest_60 (by decide) ?_
          refine kw_putN X (k := (7, c, j)) (ks_d7 hc hj) rfl hc_Way hi_Way t_Way t_Way_ok n_Way 0 (by decide) rfl n_TC_62 rfl rfl rfl d_TC_meetRequest_61 ?_
          have e1 : k_meet1 (ks_T P) a c j false = a := ((if_pos h1).trans (if_neg (by decide)))
          have e2 : k_kp a c j = _ := if_pos h5
          exact tk_vret X hlk hr d_TC_meetRequest_64 rfl (fun _ h => h) (Or.inr rfl) (kw_st (by rw [k_meet, e1]; refine Eq.trans ?_ (if_neg h4).symm; rw [e2]; rfl) rfl rfl)
      · skip
        have e1 : k_meet1 (ks_T P) a c j false = a := ((if_pos h1).trans (if_neg (by decide)))
        exact tk_vret X hlk hr d_TC_meetRequest_34 rfl (fun _ h => h) (Or.inr rfl) (kw_st (by rw [k_meet, e1]; exact (if_pos h4).symm) rfl rfl)
  | true =>
    refine tk_of hP.2.2.2.2.2 (by decide) rfl (Nat.le_of_ble_eq_true rfl) ?_
    intro p e s m below meth c0 X hlk hr hnm
    refine tk_aload_n X d_TC_meetRequest_0 rfl rfl ?_
    refine tk_getN X (k := (7, c, j)) (dm := ks_dm P) (ks_d7 hc hj) rfl hc_Way hi_Way 2 (by decide) n_TC_68 (v := .int _) rfl d_TC_meetRequest_1 ?_
    refine tk_iconst (v := 2) X d_TC_meetRequest_4 (by decide) ?_
    refine tk_iand X d_TC_meetRequest_5 ?_
    refine tk_if_ne (tgt := 20) X d_TC_meetRequest_6 (by decide) (fun h1 => ?_) (fun h1 => ?_)
    · skip
      refine tk_aload_n X d_TC_meetRequest_20 rfl rfl ?_
      refine tk_iconst (v := 1) X d_TC_meetRequest_21 (by decide) ?_
      refine tk_iconst (v := 0) X d_TC_meetRequest_22 (by decide) ?_
      refine tk_callV X (kb := (4, c, 0)) (ks_d4 hc) rfl hc_Core (c_Core_abort l P hP c hc 1 (by decide) 0 a b o) (ks_site (n := 2) mc_Core_abort mi_Core (by decide +kernel) (by decide) (by decide)) m_TC_187 ms_Core_abort mv_Core_abort rfl (Nat.le_of_ble_eq_true rfl) ⟨Nat.le_of_ble_eq_true rfl, Nat.le_of_ble_eq_true rfl⟩ rfl d_TC_meetRequest_23 ?_
      refine tk_pop X rfl d_TC_meetRequest_26 ?_
      refine tk_aload_n X d_TC_meetRequest_27 rfl rfl ?_
      refine tk_getN X (k := (7, c, j)) (dm := ks_dm P) (ks_d7 hc hj) rfl hc_Way hi_Way 0 (by decide) n_TC_62 (v := .int _) rfl d_TC_meetRequest_28 ?_
      refine tk_if_ne (tgt := 35) X d_TC_meetRequest_31 (by decide) (fun h2 => ?_) (fun h2 => ?_)
      · skip
        refine tk_aload_n X d_TC_meetRequest_35 rfl rfl ?_
        refine tk_getN X (k := (7, c, j)) (dm := ks_dm P) (ks_d7 hc hj) rfl hc_Way hi_Way 0 (by decide) n_TC_62 (v := .int _) rfl d_TC_meetRequest_36 ?_
        refine tk_iconst (v := 2) X d_TC_meetRequest_39 (by decide) ?_
        refine tk_icmp_ne (tgt := 51) X d_TC_meetRequest_40 (by decide) (fun h3 => ?_) (fun h3 => ?_)
        · skip
          refine tk_aload_n X d_TC_meetRequest_51 rfl rfl ?_
          refine tk_iload_n X d_TC_meetRequest_52 rfl rfl ?_
          refine tk_if_eq (tgt := 60) X d_TC_meetRequest_53 (by decide) (fun h => absurd h (by decide)) (fun _ => ?_)
          refine tk_iconst (v := 0) X d_TC_meetRequest_56 (by decide) ?_
          refine tk_goto (tgt := 61) X d_TC_meetRequest_57 (by decide) ?_
          refine kw_putN X (k := (7, c, j)) (ks_d7 hc hj) rfl hc_Way hi_Way t_Way t_Way_ok n_Way 0 (by decide) rfl n_TC_62 rfl rfl rfl d_TC_meetRequest_61 ?_
          have e1 : k_meet1 (ks_T P) a c j true = (k_abort (ks_T P) a c 1 0) := (if_neg h1)
          have e2 : k_kp (k_abort (ks_T P) a c 1 0) c j = _ := if_neg h3
          exact tk_vret X hlk hr d_TC_meetRequest_64 rfl (fun _ h => h) (Or.inr rfl) (kw_st (by rw [k_meet, e1]; refine Eq.trans ?_ (if_neg h2).symm; rw [e2]; rfl) rfl rfl)
        · skip
          refine tk_aload_n X d_TC_meetRequest_43 rfl rfl ?_
          refine tk_get X (k := (0, 0, 0)) (dm := ks_dm P) (ks_d0 (by decide)) rfl hc_TC hi_TC 0 (by decide) m_TC_16 (v := .ref (tk_ad (ks_G P) (1, 0, 0))) rfl d_TC_meetRequest_44 ?_
          refine tk_aload_n X d_TC_meetRequest_47 rfl rfl ?_
          refine tk_callV X (kb := (1, 0, 0)) (ks_d0 (by decide)) rfl hc_Store (c_Store_keep l P hP c j hc hj _ b o) (ks_site (n := 1) mc_Store_keep mi_Store (by decide +kernel) (by decide) (by decide)) m_TC_207 ms_Store_keep mv_Store_keep rfl (Nat.le_of_ble_eq_true rfl) ⟨Nat.le_of_ble_eq_true rfl, Nat.le_of_ble_eq_true rfl⟩ rfl d_TC_meetRequest_48 ?_
          refine tk_aload_n X d_TC_meetRequest_51 rfl rfl ?_
          refine tk_iload_n X d_TC_meetRequest_52 rfl rfl ?_
          refine tk_if_eq (tgt := 60) X d_TC_meetRequest_53 (by decide) (fun h => absurd h (by decide)) (fun _ => ?_)
          refine tk_iconst (v := 0) X d_TC_meetRequest_56 (by decide) ?_
          refine tk_goto (tgt := 61) X d_TC_meetRequest_57 (by decide) ?_
          refine kw_putN X (k := (7, c, j)) (ks_d7 hc hj) rfl hc_Way hi_Way t_Way t_Way_ok n_Way 0 (by decide) rfl n_TC_62 rfl rfl rfl d_TC_meetRequest_61 ?_
          have e1 : k_meet1 (ks_T P) a c j true = (k_abort (ks_T P) a c 1 0) := (if_neg h1)
          have e2 : k_kp (k_abort (ks_T P) a c 1 0) c j = _ := if_pos h3
          exact tk_vret X hlk hr d_TC_meetRequest_64 rfl (fun _ h => h) (Or.inr rfl) (kw_st (by rw [k_meet, e1]; refine Eq.trans ?_ (if_neg h2).symm; rw [e2]; rfl) rfl rfl)
      · skip
        have e1 : k_meet1 (ks_T P) a c j true = (k_abort (ks_T P) a c 1 0) := (if_neg h1)
        exact tk_vret X hlk hr d_TC_meetRequest_34 rfl (fun _ h => h) (Or.inr rfl) (kw_st (by rw [k_meet, e1]; exact (if_pos h2).symm) rfl rfl)
    · skip
      refine tk_iload_n X d_TC_meetRequest_9 rfl rfl ?_
      refine tk_if_eq (tgt := 27) X d_TC_meetRequest_10 (by decide) (fun h => absurd h (by decide)) (fun _ => ?_)
      refine tk_aload_n X d_TC_meetRequest_13 rfl rfl ?_
      refine tk_getN X (k := (7, c, j)) (dm := ks_dm P) (ks_d7 hc hj) rfl hc_Way hi_Way 2 (by decide) n_TC_68 (v := .int _) rfl d_TC_meetRequest_14 ?_
      refine tk_if_eq (tgt := 27) X d_TC_meetRequest_17 (by decide) (fun h4 => ?_) (fun h4 => ?_)
      · skip
        refine tk_aload_n X d_TC_meetRequest_27 rfl rfl ?_
        refine tk_getN X (k := (7, c, j)) (dm := ks_dm P) (ks_d7 hc hj) rfl hc_Way hi_Way 0 (by decide) n_TC_62 (v := .int _) rfl d_TC_meetRequest_28 ?_
        refine tk_if_ne (tgt := 35) X d_TC_meetRequest_31 (by decide) (fun h5 => ?_) (fun h5 => ?_)
        · skip
          refine tk_aload_n X d_TC_meetRequest_35 rfl rfl ?_
          refine tk_getN X (k := (7, c, j)) (dm := ks_dm P) (ks_d7 hc hj) rfl hc_Way hi_Way 0 (by decide) n_TC_62 (v := .int _) rfl d_TC_meetRequest_36 ?_
          refine tk_iconst (v := 2) X d_TC_meetRequest_39 (by decide) ?_
          refine tk_icmp_ne (tgt := 51) X d_TC_meetRequest_40 (by decide) (fun h6 => ?_) (fun h6 => ?_)
          · skip
            refine tk_aload_n X d_TC_meetRequest_51 rfl rfl ?_
            refine tk_iload_n X d_TC_meetRequest_52 rfl rfl ?_
            refine tk_if_eq (tgt := 60) X d_TC_meetRequest_53 (by decide) (fun h => absurd h (by decide)) (fun _ => ?_)
            refine tk_iconst (v := 0) X d_TC_meetRequest_56 (by decide) ?_
            refine tk_goto (tgt := 61) X d_TC_meetRequest_57 (by decide) ?_
            refine kw_putN X (k := (7, c, j)) (ks_d7 hc hj) rfl hc_Way hi_Way t_Way t_Way_ok n_Way 0 (by decide) rfl n_TC_62 rfl rfl rfl d_TC_meetRequest_61 ?_
            have e1 : k_meet1 (ks_T P) a c j true = a := (((if_pos h1).trans (if_pos rfl)).trans (if_pos h4))
            have e2 : k_kp a c j = _ := if_neg h6
            exact tk_vret X hlk hr d_TC_meetRequest_64 rfl (fun _ h => h) (Or.inr rfl) (kw_st (by rw [k_meet, e1]; refine Eq.trans ?_ (if_neg h5).symm; rw [e2]; rfl) rfl rfl)
          · skip
            refine tk_aload_n X d_TC_meetRequest_43 rfl rfl ?_
            refine tk_get X (k := (0, 0, 0)) (dm := ks_dm P) (ks_d0 (by decide)) rfl hc_TC hi_TC 0 (by decide) m_TC_16 (v := .ref (tk_ad (ks_G P) (1, 0, 0))) rfl d_TC_meetRequest_44 ?_
            refine tk_aload_n X d_TC_meetRequest_47 rfl rfl ?_
            refine tk_callV X (kb := (1, 0, 0)) (ks_d0 (by decide)) rfl hc_Store (c_Store_keep l P hP c j hc hj _ b o) (ks_site (n := 1) mc_Store_keep mi_Store (by decide +kernel) (by decide) (by decide)) m_TC_207 ms_Store_keep mv_Store_keep rfl (Nat.le_of_ble_eq_true rfl) ⟨Nat.le_of_ble_eq_true rfl, Nat.le_of_ble_eq_true rfl⟩ rfl d_TC_meetRequest_48 ?_
            refine tk_aload_n X d_TC_meetRequest_51 rfl rfl ?_
            refine tk_iload_n X d_TC_meetRequest_52 rfl rfl ?_
            refine tk_if_eq (tgt := 60) X d_TC_meetRequest_53 (by decide) (fun h => absurd h (by decide)) (fun _ => ?_)
            refine tk_iconst (v := 0) X d_TC_meetRequest_56 (by decide) ?_
            refine tk_goto (tgt := 61) X d_TC_meetRequest_57 (by decide) ?_
            refine kw_putN X (k := (7, c, j)) (ks_d7 hc hj) rfl hc_Way hi_Way t_Way t_Way_ok n_Way 0 (by decide) rfl n_TC_62 rfl rfl rfl d_TC_meetRequest_61 ?_
            have e1 : k_meet1 (ks_T P) a c j true = a := (((if_pos h1).trans (if_pos rfl)).trans (if_pos h4))
            have e2 : k_kp a c j = _ := if_pos h6
            exact tk_vret X hlk hr d_TC_meetRequest_64 rfl (fun _ h => h) (Or.inr rfl) (kw_st (by rw [k_meet, e1]; refine Eq.trans ?_ (if_neg h5).symm; rw [e2]; rfl) rfl rfl)
        · skip
          have e1 : k_meet1 (ks_T P) a c j true = a := (((if_pos h1).trans (if_pos rfl)).trans (if_pos h4))
          exact tk_vret X hlk hr d_TC_meetRequest_34 rfl (fun _ h => h) (Or.inr rfl) (kw_st (by rw [k_meet, e1]; exact (if_pos h5).symm) rfl rfl)
      · skip
        refine tk_aload_n X d_TC_meetRequest_20 rfl rfl ?_
        refine tk_iconst (v := 1) X d_TC_meetRequest_21 (by decide) ?_
        refine tk_iconst (v := 0) X d_TC_meetRequest_22 (by decide) ?_
        refine tk_callV X (kb := (4, c, 0)) (ks_d4 hc) rfl hc_Core (c_Core_abort l P hP c hc 1 (by decide) 0 a b o) (ks_site (n := 2) mc_Core_abort mi_Core (by decide +kernel) (by decide) (by decide)) m_TC_187 ms_Core_abort mv_Core_abort rfl (Nat.le_of_ble_eq_true rfl) ⟨Nat.le_of_ble_eq_true rfl, Nat.le_of_ble_eq_true rfl⟩ rfl d_TC_meetRequest_23 ?_
        refine tk_pop X rfl d_TC_meetRequest_26 ?_
        refine tk_aload_n X d_TC_meetRequest_27 rfl rfl ?_
        refine tk_getN X (k := (7, c, j)) (dm := ks_dm P) (ks_d7 hc hj) rfl hc_Way hi_Way 0 (by decide) n_TC_62 (v := .int _) rfl d_TC_meetRequest_28 ?_
        refine tk_if_ne (tgt := 35) X d_TC_meetRequest_31 (by decide) (fun h7 => ?_) (fun h7 => ?_)
        · skip
          refine tk_aload_n X d_TC_meetRequest_35 rfl rfl ?_
          refine tk_getN X (k := (7, c, j)) (dm := ks_dm P) (ks_d7 hc hj) rfl hc_Way hi_Way 0 (by decide) n_TC_62 (v := .int _) rfl d_TC_meetRequest_36 ?_
          refine tk_iconst (v := 2) X d_TC_meetRequest_39 (by decide) ?_
          refine tk_icmp_ne (tgt := 51) X d_TC_meetRequest_40 (by decide) (fun h8 => ?_) (fun h8 => ?_)
          · skip
            refine tk_aload_n X d_TC_meetRequest_51 rfl rfl ?_
            refine tk_iload_n X d_TC_meetRequest_52 rfl rfl ?_
            refine tk_if_eq (tgt := 60) X d_TC_meetRequest_53 (by decide) (fun h => absurd h (by decide)) (fun _ => ?_)
            refine tk_iconst (v := 0) X d_TC_meetRequest_56 (by decide) ?_
            refine tk_goto (tgt := 61) X d_TC_meetRequest_57 (by decide) ?_
            refine kw_putN X (k := (7, c, j)) (ks_d7 hc hj) rfl hc_Way hi_Way t_Way t_Way_ok n_Way 0 (by decide) rfl n_TC_62 rfl rfl rfl d_TC_meetRequest_61 ?_
            have e1 : k_meet1 (ks_T P) a c j true = (k_abort (ks_T P) a c 1 0) := (((if_pos h1).trans (if_pos rfl)).trans (if_neg h4))
            have e2 : k_kp (k_abort (ks_T P) a c 1 0) c j = _ := if_neg h8
            exact tk_vret X hlk hr d_TC_meetRequest_64 rfl (fun _ h => h) (Or.inr rfl) (kw_st (by rw [k_meet, e1]; refine Eq.trans ?_ (if_neg h7).symm; rw [e2]; rfl) rfl rfl)
          · skip
            refine tk_aload_n X d_TC_meetRequest_43 rfl rfl ?_
            refine tk_get X (k := (0, 0, 0)) (dm := ks_dm P) (ks_d0 (by decide)) rfl hc_TC hi_TC 0 (by decide) m_TC_16 (v := .ref (tk_ad (ks_G P) (1, 0, 0))) rfl d_TC_meetRequest_44 ?_
            refine tk_aload_n X d_TC_meetRequest_47 rfl rfl ?_
            refine tk_callV X (kb := (1, 0, 0)) (ks_d0 (by decide)) rfl hc_Store (c_Store_keep l P hP c j hc hj _ b o) (ks_site (n := 1) mc_Store_keep mi_Store (by decide +kernel) (by decide) (by decide)) m_TC_207 ms_Store_keep mv_Store_keep rfl (Nat.le_of_ble_eq_true rfl) ⟨Nat.le_of_ble_eq_true rfl, Nat.le_of_ble_eq_true rfl⟩ rfl d_TC_meetRequest_48 ?_
            refine tk_aload_n X d_TC_meetRequest_51 rfl rfl ?_
            refine tk_iload_n X d_TC_meetRequest_52 rfl rfl ?_
            refine tk_if_eq (tgt := 60) X d_TC_meetRequest_53 (by decide) (fun h => absurd h (by decide)) (fun _ => ?_)
            refine tk_iconst (v := 0) X d_TC_meetRequest_56 (by decide) ?_
            refine tk_goto (tgt := 61) X d_TC_meetRequest_57 (by decide) ?_
            refine kw_putN X (k := (7, c, j)) (ks_d7 hc hj) rfl hc_Way hi_Way t_Way t_Way_ok n_Way 0 (by decide) rfl n_TC_62 rfl rfl rfl d_TC_meetRequest_61 ?_
            have e1 : k_meet1 (ks_T P) a c j true = (k_abort (ks_T P) a c 1 0) := (((if_pos h1).trans (if_pos rfl)).trans (if_neg h4))
            have e2 : k_kp (k_abort (ks_T P) a c 1 0) c j = _ := if_pos h8
            exact tk_vret X hlk hr d_TC_meetRequest_64 rfl (fun _ h => h) (Or.inr rfl) (kw_st (by rw [k_meet, e1]; refine Eq.trans ?_ (if_neg h7).symm; rw [e2]; rfl) rfl rfl)
        · skip
          have e1 : k_meet1 (ks_T P) a c j true = (k_abort (ks_T P) a c 1 0) := (((if_pos h1).trans (if_pos rfl)).trans (if_neg h4))
          exact tk_vret X hlk hr d_TC_meetRequest_34 rfl (fun _ h => h) (Or.inr rfl) (kw_st (by rw [k_meet, e1]; exact (if_pos h7).symm) rfl rfl)

section LP
variable {p : Program} {l : Launch} {e : Env} {R : Room} {s : State} {m : MethodId} {args : Array Value} {below : List Frame} {meth : Method} {c0 : Code} {P : ks_P} {cells slots : Nat} {Q : State → Prop}
set_option maxRecDepth 100000 in
set_option maxHeartbeats 4000000 in
theorem lp_TC_sendRequest (X : tk_X p m c0 s args (ks_G P) R_TC b_TC_sendRequest 6 WS) (hP : ks_ok P) {y : Nat} (hy : y < 32) (x : Int32) (w : Bool) (b : ks_M) (o : ks_O) {a2 : ks_M} (kend : ∀ t5, tk_go p l e (ks_rm 3) s m args below meth c0 (ks_G P) (ks_dm P) 6 0 0 Q (ks_sl P a2 b o) 64 [some (.ref (tk_ad (ks_G P) (0, 0, 0))), some (.int x), some (.int (nI y)), some (.int (q_b w)), some (.int (nI (ks_n P))), t5] []) : ∀ (k i : Nat) (a : ks_M) (t5 : Option Value), i + k = ks_n P → k_send (ks_S P) (ks_W P) x y w k i a = a2 → tk_go p l e (ks_rm 3) s m args below meth c0 (ks_G P) (ks_dm P) 6 0 0 Q (ks_sl P a b o) 3 [some (.ref (tk_ad (ks_G P) (0, 0, 0))), some (.int x), some (.int (nI y)), some (.int (q_b w)), some (.int (nI i)), t5] [] := by
  have hn64 := ks_n64 hP
  have hT64 := ks_T64 hP
  intro k
  induction k with
  | zero =>
    intro i a t5 hi hk
    have hiT : i = ks_n P := by omega
    subst hiT
    have hk2 : a = a2 := hk
    subst hk2
    refine tk_iload X d_TC_sendRequest_3 rfl ?_
    refine tk_aload_n X d_TC_sendRequest_5 rfl rfl ?_
    refine tk_get X (k := (0, 0, 0)) (dm := ks_dm P) (ks_d0 (by decide)) rfl hc_TC hi_TC 1 (by decide) m_TC_22 (v := .ref (tk_ad (ks_G P) (3, 0, 0))) rfl d_TC_sendRequest_6 ?_
    refine tk_alen X (k := (3, 0, 0)) (dm := ks_dm P) (ks_d0 (by decide)) rfl rfl (v := nI _) rfl d_TC_sendRequest_9 ?_
    refine tk_icmp_ge (tgt := 64) X d_TC_sendRequest_10 (by decide) (fun _ => ?_) (fun h => absurd (nI_le (Nat.le_refl _) (by omega)) h)
    exact kend t5
  | succ k ih =>
    intro i a t5 hi hk
    have hi2 : i < ks_n P := by omega
    refine tk_iload X d_TC_sendRequest_3 rfl ?_
    refine tk_aload_n X d_TC_sendRequest_5 rfl rfl ?_
    refine tk_get X (k := (0, 0, 0)) (dm := ks_dm P) (ks_d0 (by decide)) rfl hc_TC hi_TC 1 (by decide) m_TC_22 (v := .ref (tk_ad (ks_G P) (3, 0, 0))) rfl d_TC_sendRequest_6 ?_
    refine tk_alen X (k := (3, 0, 0)) (dm := ks_dm P) (ks_d0 (by decide)) rfl rfl (v := nI _) rfl d_TC_sendRequest_9 ?_
    refine tk_icmp_ge (tgt := 64) X d_TC_sendRequest_10 (by decide) (fun h => absurd h (nI_ge hi2 (by omega))) (fun _ => ?_)
    refine tk_iload X d_TC_sendRequest_13 rfl ?_
    refine tk_iload_n X d_TC_sendRequest_15 rfl rfl ?_
    refine tk_icmp_ne (tgt := 23) X d_TC_sendRequest_16 (by decide) (fun h1 => ?_) (fun h1 => ?_)
    · skip
      refine tk_aload_n X d_TC_sendRequest_23 rfl rfl ?_
      refine tk_get X (k := (0, 0, 0)) (dm := ks_dm P) (ks_d0 (by decide)) rfl hc_TC hi_TC 1 (by decide) m_TC_22 (v := .ref (tk_ad (ks_G P) (3, 0, 0))) rfl d_TC_sendRequest_24 ?_
      refine tk_iload X d_TC_sendRequest_27 rfl ?_
      refine kw_core X (i := i) rfl hi2 hn64 d_TC_sendRequest_29 ?_
      refine tk_getN X (k := (4, i, 0)) (dm := ks_dm P) (ks_d4 hi2) rfl hc_Core hi_Core 1 (by decide) n_TC_54 (v := .ref (tk_ad (ks_G P) (5, i, 0))) rfl d_TC_sendRequest_30 ?_
      refine tk_iload_n X d_TC_sendRequest_33 rfl rfl ?_
      refine tk_callV X (kb := (5, i, 0)) (ks_d5 hi2) rfl hc_Cache (c_Cache_find l P hP i y hi2 hy a b o) (ks_site (n := 1) mc_Cache_find mi_Cache (by decide +kernel) (by decide) (by decide)) m_TC_58 ms_Cache_find mv_Cache_find rfl (Nat.le_of_ble_eq_true rfl) ⟨Nat.le_of_ble_eq_true rfl, Nat.le_of_ble_eq_true rfl⟩ rfl d_TC_sendRequest_34 ?_
      cases hf : k_find a i y (ks_W P) (k_first (ks_S P) (ks_W P) y) with
      | none =>
        refine tk_astoreN X d_TC_sendRequest_37 (by decide) rfl ?_
        refine tk_aloadN X d_TC_sendRequest_39 rfl ?_
        refine tk_ifnullN (tgt := 58) X d_TC_sendRequest_41 (by decide) ?_
        refine tk_iinc (v := nI (i + 1)) X d_TC_sendRequest_58 rfl (q_inc i) (by decide) rfl ?_
        refine tk_goto (tgt := 3) X d_TC_sendRequest_61 (by decide) ?_
        have e1 : k_ask1 (ks_S P) (ks_W P) x y w i a = a := ((if_neg h1).trans (by rw [hf]))
        exact ih (i + 1) _ _ (by omega) (by rw [← e1]; exact hk)
      | some j =>
        have hj : j < ks_T P := k_find_T hP hf
        refine tk_astore X d_TC_sendRequest_37 (by decide) rfl ?_
        refine tk_aload X d_TC_sendRequest_39 rfl ?_
        refine tk_ifnull X d_TC_sendRequest_41 ?_
        refine tk_aload_n X d_TC_sendRequest_44 rfl rfl ?_
        refine tk_aload_n X d_TC_sendRequest_45 rfl rfl ?_
        refine tk_get X (k := (0, 0, 0)) (dm := ks_dm P) (ks_d0 (by decide)) rfl hc_TC hi_TC 1 (by decide) m_TC_22 (v := .ref (tk_ad (ks_G P) (3, 0, 0))) rfl d_TC_sendRequest_46 ?_
        refine tk_iload X d_TC_sendRequest_49 rfl ?_
        refine kw_core X (i := i) rfl hi2 hn64 d_TC_sendRequest_51 ?_
        refine tk_aload X d_TC_sendRequest_52 rfl ?_
        refine tk_iload_n X d_TC_sendRequest_54 rfl rfl ?_
        refine tk_callV X (kb := (0, 0, 0)) (ks_d0 (by decide)) rfl hc_TC (c_TC_meetRequest l P hP i j hi2 hj w a b o) (ks_site (n := 3) mc_TC_meetRequest mi_TC (by decide +kernel) (by decide) (by decide)) m_TC_214 ms_TC_meetRequest mv_TC_meetRequest rfl (Nat.le_of_ble_eq_true rfl) ⟨Nat.le_of_ble_eq_true rfl, Nat.le_of_ble_eq_true rfl⟩ rfl d_TC_sendRequest_55 ?_
        refine tk_iinc (v := nI (i + 1)) X d_TC_sendRequest_58 rfl (q_inc i) (by decide) rfl ?_
        refine tk_goto (tgt := 3) X d_TC_sendRequest_61 (by decide) ?_
        have e1 : k_ask1 (ks_S P) (ks_W P) x y w i a = k_meet (ks_T P) a i j w := ((if_neg h1).trans (by rw [hf]))
        exact ih (i + 1) _ _ (by omega) (by rw [← e1]; exact hk)
    · skip
      refine tk_null X d_TC_sendRequest_19 ?_
      refine tk_goto (tgt := 37) X d_TC_sendRequest_20 (by decide) ?_
      refine tk_astoreN X d_TC_sendRequest_37 (by decide) rfl ?_
      refine tk_aloadN X d_TC_sendRequest_39 rfl ?_
      refine tk_ifnullN (tgt := 58) X d_TC_sendRequest_41 (by decide) ?_
      refine tk_iinc (v := nI (i + 1)) X d_TC_sendRequest_58 rfl (q_inc i) (by decide) rfl ?_
      refine tk_goto (tgt := 3) X d_TC_sendRequest_61 (by decide) ?_
      have e1 : k_ask1 (ks_S P) (ks_W P) x y w i a = a := (if_pos h1)
      exact ih (i + 1) _ _ (by omega) (by rw [← e1]; exact hk)
end LP

set_option maxRecDepth 100000 in
set_option maxHeartbeats 4000000 in
theorem c_TC_sendRequest (l : Launch) (P : ks_P) (hP : ks_ok P) (y : Nat) (hy : y < 32) (x : Int32) (w : Bool) (a b : ks_M) (o : ks_O) : kc l P y_TC_sendRequest b_TC_sendRequest 6 none 3 [.ref (tk_ad (ks_G P) (0, 0, 0)), .int x, .int (nI y), .int (q_b w)] a b o (none) (k_send (ks_S P) (ks_W P) x y w (ks_n P) 0 a) b o := by
  have hn64 := ks_n64 hP
  have hT64 := ks_T64 hP
  refine tk_of hP.2.2.2.2.2 (by decide) rfl (Nat.le_of_ble_eq_true rfl) ?_
  intro p e s m below meth c0 X hlk hr hnm
  refine tk_iconst (v := 0) X d_TC_sendRequest_0 (by decide) ?_
  refine tk_istore X d_TC_sendRequest_1 (by decide) rfl ?_
  refine lp_TC_sendRequest X hP hy x w b o (a2 := k_send (ks_S P) (ks_W P) x y w (ks_n P) 0 a) (fun t5 => ?_) (ks_n P) 0 a _ (by omega) rfl
  exact tk_vret X hlk hr d_TC_sendRequest_64 rfl (fun _ h => h) (Or.inr rfl) (fun _ _ => rfl)

section LP
variable {p : Program} {l : Launch} {e : Env} {R : Room} {s : State} {m : MethodId} {args : Array Value} {below : List Frame} {meth : Method} {c0 : Code} {P : ks_P} {cells slots : Nat} {Q : State → Prop}
set_option maxRecDepth 100000 in
set_option maxHeartbeats 4000000 in
theorem tl_acc142 (X : tk_X p m c0 s args (ks_G P) R_TC b_TC_access 6 WS) (hP : ks_ok P) {c j y : Nat} (hc : c < ks_n P) (hj : j < ks_T P) (hy : y < 32) (w : Bool) (v4 : Option Value) (a b : ks_M) (o : ks_O) (kend : tk_go p l e (ks_rm 4) s m args below meth c0 (ks_G P) (ks_dm P) 6 0 0 Q (ks_sl P (k_us a c j) b o) 163 [some (.ref (tk_ad (ks_G P) (0, 0, 0))), some (.ref (tk_ad (ks_G P) (4, c, 0))), some (.int (nI y)), some (.int (q_b w)), v4, some (.ref (tk_ad (ks_G P) (7, c, j)))] [.ref (tk_ad (ks_G P) (7, c, j))]) : tk_go p l e (ks_rm 4) s m args below meth c0 (ks_G P) (ks_dm P) 6 0 0 Q (ks_sl P a b o) 142 [some (.ref (tk_ad (ks_G P) (0, 0, 0))), some (.ref (tk_ad (ks_G P) (4, c, 0))), some (.int (nI y)), some (.int (q_b w)), v4, some (.ref (tk_ad (ks_G P) (7, c, j)))] [] := by
  have hn64 := ks_n64 hP
  have hT64 := ks_T64 hP
  refine tk_aload_n X d_TC_access_142 rfl rfl ?_
  refine tk_dup X rfl d_TC_access_143 ?_
  refine tk_get X (k := (0, 0, 0)) (dm := ks_dm P) (ks_d0 (by decide)) rfl hc_TC hi_TC 3 (by decide) m_TC_201 (v := .int _) rfl d_TC_access_144 ?_
  refine tk_iconst (v := 1) X d_TC_access_147 (by decide) ?_
  refine tk_iadd X d_TC_access_148 ?_
  refine kw_put X (k := (0, 0, 0)) (ks_d0 (by decide)) rfl hc_TC hi_TC t_TC t_TC_ok n_TC 3 (by decide) rfl m_TC_201 rfl rfl rfl d_TC_access_149 ?_
  refine tk_aload X d_TC_access_152 rfl ?_
  refine tk_aload_n X d_TC_access_154 rfl rfl ?_
  refine tk_get X (k := (0, 0, 0)) (dm := ks_dm P) (ks_d0 (by decide)) rfl hc_TC hi_TC 3 (by decide) m_TC_201 (v := .int _) rfl d_TC_access_155 ?_
  refine kw_putN X (k := (7, c, j)) (ks_d7 hc hj) rfl hc_Way hi_Way t_Way t_Way_ok n_Way 5 (by decide) rfl n_TC_204 rfl rfl rfl d_TC_access_158 ?_
  refine tk_aload X d_TC_access_161 rfl ?_
  exact kend
end LP

section LP
variable {p : Program} {l : Launch} {e : Env} {R : Room} {s : State} {m : MethodId} {args : Array Value} {below : List Frame} {meth : Method} {c0 : Code} {P : ks_P} {cells slots : Nat} {Q : State → Prop}
set_option maxRecDepth 100000 in
set_option maxHeartbeats 4000000 in
theorem tl_acc116 (X : tk_X p m c0 s args (ks_G P) R_TC b_TC_access 6 WS) (hP : ks_ok P) {c j y : Nat} (hc : c < ks_n P) (hj : j < ks_T P) (hy : y < 32) (w : Bool) (v4 : Option Value) (a b : ks_M) (o : ks_O) (kend : tk_go p l e (ks_rm 4) s m args below meth c0 (ks_G P) (ks_dm P) 6 0 0 Q (ks_sl P (k_us (k_mk a c j w) c j) b o) 163 [some (.ref (tk_ad (ks_G P) (0, 0, 0))), some (.ref (tk_ad (ks_G P) (4, c, 0))), some (.int (nI y)), some (.int (q_b w)), v4, some (.ref (tk_ad (ks_G P) (7, c, j)))] [.ref (tk_ad (ks_G P) (7, c, j))]) : tk_go p l e (ks_rm 4) s m args below meth c0 (ks_G P) (ks_dm P) 6 0 0 Q (ks_sl P a b o) 116 [some (.ref (tk_ad (ks_G P) (0, 0, 0))), some (.ref (tk_ad (ks_G P) (4, c, 0))), some (.int (nI y)), some (.int (q_b w)), v4, some (.ref (tk_ad (ks_G P) (7, c, j)))] [] := by
  have hn64 := ks_n64 hP
  have hT64 := ks_T64 hP
  cases w with
  | false =>
    refine tk_aload_n X d_TC_access_116 rfl rfl ?_
    refine tk_getN X (k := (4, c, 0)) (dm := ks_dm P) (ks_d4 hc) rfl hc_Core hi_Core 8 (by decide) n_TC_86 (v := .int _) rfl d_TC_access_117 ?_
    refine tk_if_le (tgt := 142) X d_TC_access_120 (by decide) (fun h1 => ?_) (fun h1 => ?_)
    · skip
      have e1 : k_mk a c j false = a := if_pos h1
      rw [e1] at kend
      exact tl_acc142 X hP hc hj hy _ _ a b o kend
    · skip
      refine tk_aload X d_TC_access_123 rfl ?_
      refine tk_dup X rfl d_TC_access_125 ?_
      refine tk_getN X (k := (7, c, j)) (dm := ks_dm P) (ks_d7 hc hj) rfl hc_Way hi_Way 2 (by decide) n_TC_68 (v := .int _) rfl d_TC_access_126 ?_
      refine tk_iload_n X d_TC_access_129 rfl rfl ?_
      refine tk_if_eq (tgt := 137) X d_TC_access_130 (by decide) (fun _ => ?_) (fun h => absurd (by decide) h)
      refine tk_iconst (v := 1) X d_TC_access_137 (by decide) ?_
      refine tk_ior X d_TC_access_138 ?_
      refine kw_putN X (k := (7, c, j)) (ks_d7 hc hj) rfl hc_Way hi_Way t_Way t_Way_ok n_Way 2 (by decide) rfl n_TC_68 rfl rfl rfl d_TC_access_139 ?_
      have e1 : k_mk a c j false = ks_up a (7, c, j) 2 (a (7, c, j) 2 ||| 1) := if_neg h1
      rw [e1] at kend
      exact tl_acc142 X hP hc hj hy _ _ _ b o kend
  | true =>
    refine tk_aload_n X d_TC_access_116 rfl rfl ?_
    refine tk_getN X (k := (4, c, 0)) (dm := ks_dm P) (ks_d4 hc) rfl hc_Core hi_Core 8 (by decide) n_TC_86 (v := .int _) rfl d_TC_access_117 ?_
    refine tk_if_le (tgt := 142) X d_TC_access_120 (by decide) (fun h1 => ?_) (fun h1 => ?_)
    · skip
      have e1 : k_mk a c j true = a := if_pos h1
      rw [e1] at kend
      exact tl_acc142 X hP hc hj hy _ _ a b o kend
    · skip
      refine tk_aload X d_TC_access_123 rfl ?_
      refine tk_dup X rfl d_TC_access_125 ?_
      refine tk_getN X (k := (7, c, j)) (dm := ks_dm P) (ks_d7 hc hj) rfl hc_Way hi_Way 2 (by decide) n_TC_68 (v := .int _) rfl d_TC_access_126 ?_
      refine tk_iload_n X d_TC_access_129 rfl rfl ?_
      refine tk_if_eq (tgt := 137) X d_TC_access_130 (by decide) (fun h => absurd h (by decide)) (fun _ => ?_)
      refine tk_iconst (v := 2) X d_TC_access_133 (by decide) ?_
      refine tk_goto (tgt := 138) X d_TC_access_134 (by decide) ?_
      refine tk_ior X d_TC_access_138 ?_
      refine kw_putN X (k := (7, c, j)) (ks_d7 hc hj) rfl hc_Way hi_Way t_Way t_Way_ok n_Way 2 (by decide) rfl n_TC_68 rfl rfl rfl d_TC_access_139 ?_
      have e1 : k_mk a c j true = ks_up a (7, c, j) 2 (a (7, c, j) 2 ||| 2) := if_neg h1
      rw [e1] at kend
      exact tl_acc142 X hP hc hj hy _ _ _ b o kend
end LP

section LP
variable {p : Program} {l : Launch} {e : Env} {R : Room} {s : State} {m : MethodId} {args : Array Value} {below : List Frame} {meth : Method} {c0 : Code} {P : ks_P} {cells slots : Nat} {Q : State → Prop}
set_option maxRecDepth 100000 in
set_option maxHeartbeats 4000000 in
theorem tl_acc94 (X : tk_X p m c0 s args (ks_G P) R_TC b_TC_access 6 WS) (hP : ks_ok P) {c j y : Nat} (hc : c < ks_n P) (hj : j < ks_T P) (hy : y < 32) (w : Bool) (v4 : Option Value) (a b : ks_M) (o : ks_O) (kend : tk_go p l e (ks_rm 4) s m args below meth c0 (ks_G P) (ks_dm P) 6 0 0 Q (ks_sl P (k_us (k_mk (k_md a c j w) c j w) c j) b o) 163 [some (.ref (tk_ad (ks_G P) (0, 0, 0))), some (.ref (tk_ad (ks_G P) (4, c, 0))), some (.int (nI y)), some (.int (q_b w)), v4, some (.ref (tk_ad (ks_G P) (7, c, j)))] [.ref (tk_ad (ks_G P) (7, c, j))]) : tk_go p l e (ks_rm 4) s m args below meth c0 (ks_G P) (ks_dm P) 6 0 0 Q (ks_sl P a b o) 94 [some (.ref (tk_ad (ks_G P) (0, 0, 0))), some (.ref (tk_ad (ks_G P) (4, c, 0))), some (.int (nI y)), some (.int (q_b w)), v4, some (.ref (tk_ad (ks_G P) (7, c, j)))] [] := by
  have hn64 := ks_n64 hP
  have hT64 := ks_T64 hP
  cases w with
  | false =>
    refine tk_iload_n X d_TC_access_94 rfl rfl ?_
    refine tk_if_eq (tgt := 116) X d_TC_access_95 (by decide) (fun _ => ?_) (fun h => absurd (by decide) h)
    have e1 : k_md a c j false = a := if_neg (by decide)
    rw [e1] at kend
    exact tl_acc116 X hP hc hj hy _ _ a b o kend
  | true =>
    refine tk_iload_n X d_TC_access_94 rfl rfl ?_
    refine tk_if_eq (tgt := 116) X d_TC_access_95 (by decide) (fun h => absurd h (by decide)) (fun _ => ?_)
    refine tk_aload_n X d_TC_access_98 rfl rfl ?_
    refine tk_aload X d_TC_access_99 rfl ?_
    refine tk_aload_n X d_TC_access_101 rfl rfl ?_
    refine tk_getN X (k := (4, c, 0)) (dm := ks_dm P) (ks_d4 hc) rfl hc_Core hi_Core 8 (by decide) n_TC_86 (v := .int _) rfl d_TC_access_102 ?_
    refine tk_if_le (tgt := 112) X d_TC_access_105 (by decide) (fun h1 => ?_) (fun h1 => ?_)
    · skip
      refine tk_iconst (v := 0) X d_TC_access_112 (by decide) ?_
      refine tk_callV X (kb := (0, 0, 0)) (ks_d0 (by decide)) rfl hc_TC (c_TC_makeModified l P hP c j hc hj false a b o) (ks_site (n := 2) mc_TC_makeModified mi_TC (by decide +kernel) (by decide) (by decide)) m_TC_197 ms_TC_makeModified mv_TC_makeModified rfl (Nat.le_of_ble_eq_true rfl) ⟨Nat.le_of_ble_eq_true rfl, Nat.le_of_ble_eq_true rfl⟩ rfl d_TC_access_113 ?_
      have e1 : k_md a c j true = k_modify a c j false := (if_pos rfl).trans (if_pos h1)
      rw [e1] at kend
      exact tl_acc116 X hP hc hj hy _ _ _ b o kend
    · skip
      refine tk_iconst (v := 1) X d_TC_access_108 (by decide) ?_
      refine tk_goto (tgt := 113) X d_TC_access_109 (by decide) ?_
      refine tk_callV X (kb := (0, 0, 0)) (ks_d0 (by decide)) rfl hc_TC (c_TC_makeModified l P hP c j hc hj true a b o) (ks_site (n := 2) mc_TC_makeModified mi_TC (by decide +kernel) (by decide) (by decide)) m_TC_197 ms_TC_makeModified mv_TC_makeModified rfl (Nat.le_of_ble_eq_true rfl) ⟨Nat.le_of_ble_eq_true rfl, Nat.le_of_ble_eq_true rfl⟩ rfl d_TC_access_113 ?_
      have e1 : k_md a c j true = k_modify a c j true := (if_pos rfl).trans (if_neg h1)
      rw [e1] at kend
      exact tl_acc116 X hP hc hj hy _ _ _ b o kend
end LP

section LP
variable {p : Program} {l : Launch} {e : Env} {R : Room} {s : State} {m : MethodId} {args : Array Value} {below : List Frame} {meth : Method} {c0 : Code} {P : ks_P} {cells slots : Nat} {Q : State → Prop}
set_option maxRecDepth 100000 in
set_option maxHeartbeats 4000000 in
theorem tl_acc82true (X : tk_X p m c0 s args (ks_G P) R_TC b_TC_access 6 WS) (hP : ks_ok P) {c j y : Nat} (hc : c < ks_n P) (hj : j < ks_T P) (hy : y < 32) (w : Bool) (a b : ks_M) (o : ks_O) (kend : tk_go p l e (ks_rm 4) s m args below meth c0 (ks_G P) (ks_dm P) 6 0 0 Q (ks_sl P (k_us (k_mk (k_md (k_rf a c j y true) c j w) c j w) c j) b o) 163 [some (.ref (tk_ad (ks_G P) (0, 0, 0))), some (.ref (tk_ad (ks_G P) (4, c, 0))), some (.int (nI y)), some (.int (q_b w)), some (.ref (tk_ad (ks_G P) (7, c, j))), some (.ref (tk_ad (ks_G P) (7, c, j)))] [.ref (tk_ad (ks_G P) (7, c, j))]) : tk_go p l e (ks_rm 4) s m args below meth c0 (ks_G P) (ks_dm P) 6 0 0 Q (ks_sl P a b o) 82 [some (.ref (tk_ad (ks_G P) (0, 0, 0))), some (.ref (tk_ad (ks_G P) (4, c, 0))), some (.int (nI y)), some (.int (q_b w)), some (.ref (tk_ad (ks_G P) (7, c, j))), some (.ref (tk_ad (ks_G P) (7, c, j)))] [] := by
  have hn64 := ks_n64 hP
  have hT64 := ks_T64 hP
  refine tk_aload X d_TC_access_82 rfl ?_
  refine tk_ifnonnull (tgt := 94) X d_TC_access_84 (by decide) ?_
  have e1 : k_rf a c j y true = _ := if_pos rfl
  rw [e1] at kend
  exact tl_acc94 X hP hc hj hy _ _ _ b o kend
end LP

section LP
variable {p : Program} {l : Launch} {e : Env} {R : Room} {s : State} {m : MethodId} {args : Array Value} {below : List Frame} {meth : Method} {c0 : Code} {P : ks_P} {cells slots : Nat} {Q : State → Prop}
set_option maxRecDepth 100000 in
set_option maxHeartbeats 4000000 in
theorem tl_acc44true (X : tk_X p m c0 s args (ks_G P) R_TC b_TC_access 6 WS) (hP : ks_ok P) {c j y : Nat} (hc : c < ks_n P) (hj : j < ks_T P) (hy : y < 32) (w : Bool) (a b : ks_M) (o : ks_O) (kend : tk_go p l e (ks_rm 4) s m args below meth c0 (ks_G P) (ks_dm P) 6 0 0 Q (ks_sl P (k_acc2 (ks_n P) (ks_S P) (ks_W P) a c y w true j) b o) 163 [some (.ref (tk_ad (ks_G P) (0, 0, 0))), some (.ref (tk_ad (ks_G P) (4, c, 0))), some (.int (nI y)), some (.int (q_b w)), some (.ref (tk_ad (ks_G P) (7, c, j))), some (.ref (tk_ad (ks_G P) (7, c, j)))] [.ref (tk_ad (ks_G P) (7, c, j))]) : tk_go p l e (ks_rm 4) s m args below meth c0 (ks_G P) (ks_dm P) 6 0 0 Q (ks_sl P a b o) 44 [some (.ref (tk_ad (ks_G P) (0, 0, 0))), some (.ref (tk_ad (ks_G P) (4, c, 0))), some (.int (nI y)), some (.int (q_b w)), some (.ref (tk_ad (ks_G P) (7, c, j))), some (.ref (tk_ad (ks_G P) (7, c, j)))] [] := by
  have hn64 := ks_n64 hP
  have hT64 := ks_T64 hP
  cases w with
  | false =>
    refine tk_aload X d_TC_access_44 rfl ?_
    refine tk_ifnull X d_TC_access_46 ?_
    refine tk_iload_n X d_TC_access_49 rfl rfl ?_
    refine tk_if_eq (tgt := 82) X d_TC_access_50 (by decide) (fun _ => ?_) (fun h => absurd (by decide) h)
    have e1 : k_rq (ks_n P) (ks_S P) (ks_W P) a c y false true j = a := ((if_pos rfl).trans (if_neg (by decide)))
    unfold k_acc2 at kend
    rw [e1] at kend
    exact tl_acc82true X hP hc hj hy _ _ b o kend
  | true =>
    refine tk_aload X d_TC_access_44 rfl ?_
    refine tk_ifnull X d_TC_access_46 ?_
    refine tk_iload_n X d_TC_access_49 rfl rfl ?_
    refine tk_if_eq (tgt := 82) X d_TC_access_50 (by decide) (fun h => absurd h (by decide)) (fun _ => ?_)
    refine tk_aload X d_TC_access_53 rfl ?_
    refine tk_getN X (k := (7, c, j)) (dm := ks_dm P) (ks_d7 hc hj) rfl hc_Way hi_Way 0 (by decide) n_TC_62 (v := .int _) rfl d_TC_access_55 ?_
    refine tk_iconst (v := 2) X d_TC_access_58 (by decide) ?_
    refine tk_icmp_eq (tgt := 82) X d_TC_access_59 (by decide) (fun h1 => ?_) (fun h1 => ?_)
    · skip
      have e1 : k_rq (ks_n P) (ks_S P) (ks_W P) a c y true true j = a := (((if_pos rfl).trans (if_pos rfl)).trans (if_pos h1))
      unfold k_acc2 at kend
      rw [e1] at kend
      exact tl_acc82true X hP hc hj hy _ _ b o kend
    · skip
      refine tk_aload_n X d_TC_access_62 rfl rfl ?_
      refine tk_dup X rfl d_TC_access_63 ?_
      refine tk_get X (k := (0, 0, 0)) (dm := ks_dm P) (ks_d0 (by decide)) rfl hc_TC hi_TC 2 (by decide) m_TC_123 (v := .int _) rfl d_TC_access_64 ?_
      refine tk_iconst (v := 1) X d_TC_access_67 (by decide) ?_
      refine tk_iadd X d_TC_access_68 ?_
      refine kw_put X (k := (0, 0, 0)) (ks_d0 (by decide)) rfl hc_TC hi_TC t_TC t_TC_ok n_TC 2 (by decide) rfl m_TC_123 rfl rfl rfl d_TC_access_69 ?_
      refine tk_aload_n X d_TC_access_72 rfl rfl ?_
      refine tk_aload_n X d_TC_access_73 rfl rfl ?_
      refine tk_getN X (k := (4, c, 0)) (dm := ks_dm P) (ks_d4 hc) rfl hc_Core hi_Core 0 (by decide) n_TC_190 (v := .int _) rfl d_TC_access_74 ?_
      refine tk_iload_n X d_TC_access_77 rfl rfl ?_
      refine tk_iload_n X d_TC_access_78 rfl rfl ?_
      refine tk_callV X (kb := (0, 0, 0)) (ks_d0 (by decide)) rfl hc_TC (c_TC_sendRequest l P hP y hy (nI c) true (ks_up a (0, 0, 0) 2 (a (0, 0, 0) 2 + 1)) b o) (ks_site (n := 3) mc_TC_sendRequest mi_TC (by decide +kernel) (by decide) (by decide)) m_TC_47 ms_TC_sendRequest mv_TC_sendRequest rfl (Nat.le_of_ble_eq_true rfl) ⟨Nat.le_of_ble_eq_true rfl, Nat.le_of_ble_eq_true rfl⟩ rfl d_TC_access_79 ?_
      have e1 : k_rq (ks_n P) (ks_S P) (ks_W P) a c y true true j = k_ask (ks_n P) (ks_S P) (ks_W P) a c y true := (((if_pos rfl).trans (if_pos rfl)).trans (if_neg h1))
      unfold k_acc2 at kend
      rw [e1] at kend
      exact tl_acc82true X hP hc hj hy _ _ b o kend
end LP

section LP
variable {p : Program} {l : Launch} {e : Env} {R : Room} {s : State} {m : MethodId} {args : Array Value} {below : List Frame} {meth : Method} {c0 : Code} {P : ks_P} {cells slots : Nat} {Q : State → Prop}
set_option maxRecDepth 100000 in
set_option maxHeartbeats 4000000 in
theorem tl_acc82false (X : tk_X p m c0 s args (ks_G P) R_TC b_TC_access 6 WS) (hP : ks_ok P) {c j y : Nat} (hc : c < ks_n P) (hj : j < ks_T P) (hy : y < 32) (w : Bool) (a b : ks_M) (o : ks_O) (kend : tk_go p l e (ks_rm 4) s m args below meth c0 (ks_G P) (ks_dm P) 6 0 0 Q (ks_sl P (k_us (k_mk (k_md (k_rf a c j y false) c j w) c j w) c j) b o) 163 [some (.ref (tk_ad (ks_G P) (0, 0, 0))), some (.ref (tk_ad (ks_G P) (4, c, 0))), some (.int (nI y)), some (.int (q_b w)), some (.null), some (.ref (tk_ad (ks_G P) (7, c, j)))] [.ref (tk_ad (ks_G P) (7, c, j))]) : tk_go p l e (ks_rm 4) s m args below meth c0 (ks_G P) (ks_dm P) 6 0 0 Q (ks_sl P a b o) 82 [some (.ref (tk_ad (ks_G P) (0, 0, 0))), some (.ref (tk_ad (ks_G P) (4, c, 0))), some (.int (nI y)), some (.int (q_b w)), some (.null), some (.ref (tk_ad (ks_G P) (7, c, j)))] [] := by
  have hn64 := ks_n64 hP
  have hT64 := ks_T64 hP
  refine tk_aloadN X d_TC_access_82 rfl ?_
  refine tk_ifnonnullN X d_TC_access_84 ?_
  refine tk_aload_n X d_TC_access_87 rfl rfl ?_
  refine tk_aload X d_TC_access_88 rfl ?_
  refine tk_iload_n X d_TC_access_90 rfl rfl ?_
  refine tk_callV X (kb := (0, 0, 0)) (ks_d0 (by decide)) rfl hc_TC (c_TC_refill l P hP c j hc hj (nI y) a b o) (ks_site (n := 2) mc_TC_refill mi_TC (by decide +kernel) (by decide) (by decide)) m_TC_193 ms_TC_refill mv_TC_refill rfl (Nat.le_of_ble_eq_true rfl) ⟨Nat.le_of_ble_eq_true rfl, Nat.le_of_ble_eq_true rfl⟩ rfl d_TC_access_91 ?_
  have e1 : k_rf a c j y false = _ := if_neg (by decide)
  rw [e1] at kend
  exact tl_acc94 X hP hc hj hy _ _ _ b o kend
end LP

section LP
variable {p : Program} {l : Launch} {e : Env} {R : Room} {s : State} {m : MethodId} {args : Array Value} {below : List Frame} {meth : Method} {c0 : Code} {P : ks_P} {cells slots : Nat} {Q : State → Prop}
set_option maxRecDepth 100000 in
set_option maxHeartbeats 4000000 in
theorem tl_acc44false (X : tk_X p m c0 s args (ks_G P) R_TC b_TC_access 6 WS) (hP : ks_ok P) {c j y : Nat} (hc : c < ks_n P) (hj : j < ks_T P) (hy : y < 32) (w : Bool) (a b : ks_M) (o : ks_O) (kend : tk_go p l e (ks_rm 4) s m args below meth c0 (ks_G P) (ks_dm P) 6 0 0 Q (ks_sl P (k_acc2 (ks_n P) (ks_S P) (ks_W P) a c y w false j) b o) 163 [some (.ref (tk_ad (ks_G P) (0, 0, 0))), some (.ref (tk_ad (ks_G P) (4, c, 0))), some (.int (nI y)), some (.int (q_b w)), some (.null), some (.ref (tk_ad (ks_G P) (7, c, j)))] [.ref (tk_ad (ks_G P) (7, c, j))]) : tk_go p l e (ks_rm 4) s m args below meth c0 (ks_G P) (ks_dm P) 6 0 0 Q (ks_sl P a b o) 44 [some (.ref (tk_ad (ks_G P) (0, 0, 0))), some (.ref (tk_ad (ks_G P) (4, c, 0))), some (.int (nI y)), some (.int (q_b w)), some (.null), some (.ref (tk_ad (ks_G P) (7, c, j)))] [] := by
  have hn64 := ks_n64 hP
  have hT64 := ks_T64 hP
  cases w with
  | false =>
    refine tk_aloadN X d_TC_access_44 rfl ?_
    refine tk_ifnullN (tgt := 62) X d_TC_access_46 (by decide) ?_
    refine tk_aload_n X d_TC_access_62 rfl rfl ?_
    refine tk_dup X rfl d_TC_access_63 ?_
    refine tk_get X (k := (0, 0, 0)) (dm := ks_dm P) (ks_d0 (by decide)) rfl hc_TC hi_TC 2 (by decide) m_TC_123 (v := .int _) rfl d_TC_access_64 ?_
    refine tk_iconst (v := 1) X d_TC_access_67 (by decide) ?_
    refine tk_iadd X d_TC_access_68 ?_
    refine kw_put X (k := (0, 0, 0)) (ks_d0 (by decide)) rfl hc_TC hi_TC t_TC t_TC_ok n_TC 2 (by decide) rfl m_TC_123 rfl rfl rfl d_TC_access_69 ?_
    refine tk_aload_n X d_TC_access_72 rfl rfl ?_
    refine tk_aload_n X d_TC_access_73 rfl rfl ?_
    refine tk_getN X (k := (4, c, 0)) (dm := ks_dm P) (ks_d4 hc) rfl hc_Core hi_Core 0 (by decide) n_TC_190 (v := .int _) rfl d_TC_access_74 ?_
    refine tk_iload_n X d_TC_access_77 rfl rfl ?_
    refine tk_iload_n X d_TC_access_78 rfl rfl ?_
    refine tk_callV X (kb := (0, 0, 0)) (ks_d0 (by decide)) rfl hc_TC (c_TC_sendRequest l P hP y hy (nI c) false (ks_up a (0, 0, 0) 2 (a (0, 0, 0) 2 + 1)) b o) (ks_site (n := 3) mc_TC_sendRequest mi_TC (by decide +kernel) (by decide) (by decide)) m_TC_47 ms_TC_sendRequest mv_TC_sendRequest rfl (Nat.le_of_ble_eq_true rfl) ⟨Nat.le_of_ble_eq_true rfl, Nat.le_of_ble_eq_true rfl⟩ rfl d_TC_access_79 ?_
    have e1 : k_rq (ks_n P) (ks_S P) (ks_W P) a c y false false j = k_ask (ks_n P) (ks_S P) (ks_W P) a c y false := (if_neg (by decide))
    unfold k_acc2 at kend
    rw [e1] at kend
    exact tl_acc82false X hP hc hj hy _ _ b o kend
  | true =>
    refine tk_aloadN X d_TC_access_44 rfl ?_
    refine tk_ifnullN (tgt := 62) X d_TC_access_46 (by decide) ?_
    refine tk_aload_n X d_TC_access_62 rfl rfl ?_
    refine tk_dup X rfl d_TC_access_63 ?_
    refine tk_get X (k := (0, 0, 0)) (dm := ks_dm P) (ks_d0 (by decide)) rfl hc_TC hi_TC 2 (by decide) m_TC_123 (v := .int _) rfl d_TC_access_64 ?_
    refine tk_iconst (v := 1) X d_TC_access_67 (by decide) ?_
    refine tk_iadd X d_TC_access_68 ?_
    refine kw_put X (k := (0, 0, 0)) (ks_d0 (by decide)) rfl hc_TC hi_TC t_TC t_TC_ok n_TC 2 (by decide) rfl m_TC_123 rfl rfl rfl d_TC_access_69 ?_
    refine tk_aload_n X d_TC_access_72 rfl rfl ?_
    refine tk_aload_n X d_TC_access_73 rfl rfl ?_
    refine tk_getN X (k := (4, c, 0)) (dm := ks_dm P) (ks_d4 hc) rfl hc_Core hi_Core 0 (by decide) n_TC_190 (v := .int _) rfl d_TC_access_74 ?_
    refine tk_iload_n X d_TC_access_77 rfl rfl ?_
    refine tk_iload_n X d_TC_access_78 rfl rfl ?_
    refine tk_callV X (kb := (0, 0, 0)) (ks_d0 (by decide)) rfl hc_TC (c_TC_sendRequest l P hP y hy (nI c) true (ks_up a (0, 0, 0) 2 (a (0, 0, 0) 2 + 1)) b o) (ks_site (n := 3) mc_TC_sendRequest mi_TC (by decide +kernel) (by decide) (by decide)) m_TC_47 ms_TC_sendRequest mv_TC_sendRequest rfl (Nat.le_of_ble_eq_true rfl) ⟨Nat.le_of_ble_eq_true rfl, Nat.le_of_ble_eq_true rfl⟩ rfl d_TC_access_79 ?_
    have e1 : k_rq (ks_n P) (ks_S P) (ks_W P) a c y true false j = k_ask (ks_n P) (ks_S P) (ks_W P) a c y true := (if_neg (by decide))
    unfold k_acc2 at kend
    rw [e1] at kend
    exact tl_acc82false X hP hc hj hy _ _ b o kend
end LP

set_option maxRecDepth 100000 in
set_option maxHeartbeats 4000000 in
theorem c_TC_access (l : Launch) (P : ks_P) (hP : ks_ok P) (c y : Nat) (hc : c < ks_n P) (hy : y < 32) (w : Bool) (a b : ks_M) (o : ks_O) : kc l P y_TC_access b_TC_access 6 (some (.object "TransactionCores$Way")) 4 [.ref (tk_ad (ks_G P) (0, 0, 0)), .ref (tk_ad (ks_G P) (4, c, 0)), .int (nI y), .int (q_b w)] a b o (some (k_ref P c (k_acc (ks_n P) (ks_S P) (ks_W P) a c y w).1)) (k_acc (ks_n P) (ks_S P) (ks_W P) a c y w).2 b o := by
  have hn64 := ks_n64 hP
  have hT64 := ks_T64 hP
  refine tk_of hP.2.2.2.2.2 (by decide) rfl (Nat.le_of_ble_eq_true rfl) ?_
  intro p e s m below meth c0 X hlk hr hnm
  refine tk_aload_n X d_TC_access_0 rfl rfl ?_
  refine tk_getN X (k := (4, c, 0)) (dm := ks_dm P) (ks_d4 hc) rfl hc_Core hi_Core 1 (by decide) n_TC_54 (v := .ref (tk_ad (ks_G P) (5, c, 0))) rfl d_TC_access_1 ?_
  refine tk_iload_n X d_TC_access_4 rfl rfl ?_
  refine tk_callV X (kb := (5, c, 0)) (ks_d5 hc) rfl hc_Cache (c_Cache_find l P hP c y hc hy a b o) (ks_site (n := 1) mc_Cache_find mi_Cache (by decide +kernel) (by decide) (by decide)) m_TC_58 ms_Cache_find mv_Cache_find rfl (Nat.le_of_ble_eq_true rfl) ⟨Nat.le_of_ble_eq_true rfl, Nat.le_of_ble_eq_true rfl⟩ rfl d_TC_access_5 ?_
  cases hf : k_find a c y (ks_W P) (k_first (ks_S P) (ks_W P) y) with
  | none =>
    refine tk_astoreN X d_TC_access_8 (by decide) rfl ?_
    refine tk_aloadN X d_TC_access_10 rfl ?_
    refine tk_ifnullN (tgt := 20) X d_TC_access_12 (by decide) ?_
    refine tk_aload_n X d_TC_access_20 rfl rfl ?_
    refine tk_getN X (k := (4, c, 0)) (dm := ks_dm P) (ks_d4 hc) rfl hc_Core hi_Core 1 (by decide) n_TC_54 (v := .ref (tk_ad (ks_G P) (5, c, 0))) rfl d_TC_access_21 ?_
    refine tk_iload_n X d_TC_access_24 rfl rfl ?_
    refine tk_callV X (kb := (5, c, 0)) (ks_d5 hc) rfl hc_Cache (c_Cache_room l P hP c y hc hy a b o) (ks_site (n := 1) mc_Cache_room mi_Cache (by decide +kernel) (by decide) (by decide)) m_TC_184 ms_Cache_room mv_Cache_room rfl (Nat.le_of_ble_eq_true rfl) ⟨Nat.le_of_ble_eq_true rfl, Nat.le_of_ble_eq_true rfl⟩ rfl d_TC_access_25 ?_
    cases hg : k_room a c (ks_W P) (k_first (ks_S P) (ks_W P) y) none with
    | none =>
      refine tk_astoreN X d_TC_access_28 (by decide) rfl ?_
      refine tk_aloadN X d_TC_access_30 rfl ?_
      refine tk_ifnonnullN X d_TC_access_32 ?_
      refine tk_aload_n X d_TC_access_35 rfl rfl ?_
      refine tk_iconst (v := 2) X d_TC_access_36 (by decide) ?_
      refine tk_iconst (v := 0) X d_TC_access_37 (by decide) ?_
      refine tk_callV X (kb := (4, c, 0)) (ks_d4 hc) rfl hc_Core (c_Core_abort l P hP c hc 2 (by decide) 0 a b o) (ks_site (n := 2) mc_Core_abort mi_Core (by decide +kernel) (by decide) (by decide)) m_TC_187 ms_Core_abort mv_Core_abort rfl (Nat.le_of_ble_eq_true rfl) ⟨Nat.le_of_ble_eq_true rfl, Nat.le_of_ble_eq_true rfl⟩ rfl d_TC_access_38 ?_
      refine tk_pop X rfl d_TC_access_41 ?_
      refine tk_null X d_TC_access_42 ?_
      have e1 : k_acc (ks_n P) (ks_S P) (ks_W P) a c y w = (none, k_abort (ks_T P) a c 2 0) := by unfold k_acc; rw [hf, hg]
      exact tk_aret X hlk hr (Or.inl ⟨_, rfl⟩) (Or.inl rfl) d_TC_access_43 (by rw [e1]; rfl) (fun _ h => h) (Or.inr rfl) (kw_st (by rw [e1]) rfl rfl)
    | some j =>
      have hj : j < ks_T P := k_room_T hP hg
      refine tk_astore X d_TC_access_28 (by decide) rfl ?_
      refine tk_aload X d_TC_access_30 rfl ?_
      refine tk_ifnonnull (tgt := 44) X d_TC_access_32 (by decide) ?_
      have e1 : k_acc (ks_n P) (ks_S P) (ks_W P) a c y w = (some j, k_acc2 (ks_n P) (ks_S P) (ks_W P) a c y w false j) := by unfold k_acc; rw [hf, hg]
      refine tl_acc44false X hP hc hj hy w a b o ?_
      exact tk_aret X hlk hr (Or.inl ⟨_, rfl⟩) (Or.inr ⟨_, rfl⟩) d_TC_access_163 (by rw [e1]; rfl) (fun _ h => h) (Or.inr rfl) (kw_st (by rw [e1]) rfl rfl)
  | some j =>
    have hj : j < ks_T P := k_find_T hP hf
    refine tk_astore X d_TC_access_8 (by decide) rfl ?_
    refine tk_aload X d_TC_access_10 rfl ?_
    refine tk_ifnull X d_TC_access_12 ?_
    refine tk_aload X d_TC_access_15 rfl ?_
    refine tk_goto (tgt := 28) X d_TC_access_17 (by decide) ?_
    refine tk_astore X d_TC_access_28 (by decide) rfl ?_
    refine tk_aload X d_TC_access_30 rfl ?_
    refine tk_ifnonnull (tgt := 44) X d_TC_access_32 (by decide) ?_
    have e1 : k_acc (ks_n P) (ks_S P) (ks_W P) a c y w = (some j, k_acc2 (ks_n P) (ks_S P) (ks_W P) a c y w true j) := by unfold k_acc; rw [hf]
    refine tl_acc44true X hP hc hj hy w a b o ?_
    exact tk_aret X hlk hr (Or.inl ⟨_, rfl⟩) (Or.inr ⟨_, rfl⟩) d_TC_access_163 (by rw [e1]; rfl) (fun _ h => h) (Or.inr rfl) (kw_st (by rw [e1]) rfl rfl)
end
section
set_option maxRecDepth 100000 in
set_option maxHeartbeats 4000000 in
theorem c_TC_load (l : Launch) (P : ks_P) (hP : ks_ok P) (c : Nat) (hc : c < ks_n P) (x : Int32) (a b : ks_M) (o : ks_O) : kc l P y_TC_load b_TC_load 5 (some .int) 5 [.ref (tk_ad (ks_G P) (0, 0, 0)), .ref (tk_ad (ks_G P) (4, c, 0)), .int x] a b o (some (.int (k_load (ks_n P) (ks_S P) (ks_W P) a c x).1)) (k_load (ks_n P) (ks_S P) (ks_W P) a c x).2 b o := by
  have hn64 := ks_n64 hP
  have hT64 := ks_T64 hP
  refine tk_of hP.2.2.2.2.2 (by decide) rfl (Nat.le_of_ble_eq_true rfl) ?_
  intro p e s m below meth c0 X hlk hr hnm
  refine tk_aload_n X d_TC_load_0 rfl rfl ?_
  refine tk_iload_n X d_TC_load_1 rfl rfl ?_
  refine tk_callV X (kb := (4, c, 0)) (ks_d4 hc) rfl hc_Core (c_Core_addressOf l P hP c hc x a b o) (ks_site (n := 1) mc_Core_addressOf mi_Core (by decide +kernel) (by decide) (by decide)) m_TC_173 ms_Core_addressOf mv_Core_addressOf rfl (Nat.le_of_ble_eq_true rfl) ⟨Nat.le_of_ble_eq_true rfl, Nat.le_of_ble_eq_true rfl⟩ rfl d_TC_load_2 ?_
  refine tk_istore_n X d_TC_load_5 rfl (by decide) rfl ?_
  refine tk_aload_n X d_TC_load_6 rfl rfl ?_
  refine tk_aload_n X d_TC_load_7 rfl rfl ?_
  refine tk_iload_n X d_TC_load_8 rfl rfl ?_
  refine tk_callS X (c_TC_lineOf2 l P hP (k_addr a c x) a b o) (ks_site (n := 1) mc_TC_lineOf mi_TC (by decide +kernel) (by decide) (by decide)) m_TC_44 ms_TC_lineOf rfl (Nat.le_of_ble_eq_true rfl) ⟨Nat.le_of_ble_eq_true rfl, Nat.le_of_ble_eq_true rfl⟩ rfl d_TC_load_9 ?_
  refine tk_iconst (v := 0) X d_TC_load_12 (by decide) ?_
  refine tk_callV X (kb := (0, 0, 0)) (ks_d0 (by decide)) rfl hc_TC (c_TC_access l P hP c (q_ln (k_addr a c x)) hc (q_ln_lt _) false a b o) (ks_site (n := 3) mc_TC_access mi_TC (by decide +kernel) (by decide) (by decide)) m_TC_176 ms_TC_access mv_TC_access rfl (Nat.le_of_ble_eq_true rfl) ⟨Nat.le_of_ble_eq_true rfl, Nat.le_of_ble_eq_true rfl⟩ rfl d_TC_load_13 ?_
  cases hf : (k_acc (ks_n P) (ks_S P) (ks_W P) a c (q_ln (k_addr a c x)) false).1 with
  | none =>
    refine tk_astoreN X d_TC_load_16 (by decide) rfl ?_
    refine tk_aloadN X d_TC_load_18 rfl ?_
    refine tk_ifnonnullN X d_TC_load_20 ?_
    refine tk_iconst (v := 2) X d_TC_load_23 (by decide) ?_
    have e1 : k_load (ks_n P) (ks_S P) (ks_W P) a c x = (2, (k_acc (ks_n P) (ks_S P) (ks_W P) a c (q_ln (k_addr a c x)) false).2) := by unfold k_load; rw [hf]
    exact tk_iret X hlk hr d_TC_load_24 (by rw [e1]) (fun _ h => h) (Or.inr rfl) (kw_st (by rw [e1]) rfl rfl)
  | some j =>
    have hj : j < ks_T P := k_acc_lt hP hf
    refine tk_astore X d_TC_load_16 (by decide) rfl ?_
    refine tk_aload X d_TC_load_18 rfl ?_
    refine tk_ifnonnull (tgt := 25) X d_TC_load_20 (by decide) ?_
    refine tk_aload_n X d_TC_load_25 rfl rfl ?_
    refine tk_getN X (k := (4, c, 0)) (dm := ks_dm P) (ks_d4 hc) rfl hc_Core hi_Core 3 (by decide) n_TC_104 (v := .ref (tk_ad (ks_G P) (9, c, 0))) rfl d_TC_load_26 ?_
    refine tk_iload_n X d_TC_load_29 rfl rfl ?_
    refine tk_callS X (c_TC_registerA l P hP x (k_acc (ks_n P) (ks_S P) (ks_W P) a c (q_ln (k_addr a c x)) false).2 b o) (ks_site (n := 1) mc_TC_registerA mi_TC (by decide +kernel) (by decide) (by decide)) m_TC_180 ms_TC_registerA rfl (Nat.le_of_ble_eq_true rfl) ⟨Nat.le_of_ble_eq_true rfl, Nat.le_of_ble_eq_true rfl⟩ rfl d_TC_load_30 ?_
    refine tk_aload X d_TC_load_33 rfl ?_
    refine tk_iload_n X d_TC_load_35 rfl rfl ?_
    refine tk_callV X (kb := (7, c, j)) (ks_d7 hc hj) rfl hc_Way (c_Way_get l P hP c j hc hj (k_addr a c x) (k_acc (ks_n P) (ks_S P) (ks_W P) a c (q_ln (k_addr a c x)) false).2 b o) (ks_site (n := 1) mc_Way_get mi_Way (by decide +kernel) (by decide) (by decide)) m_TC_71 ms_Way_get mv_Way_get rfl (Nat.le_of_ble_eq_true rfl) ⟨Nat.le_of_ble_eq_true rfl, Nat.le_of_ble_eq_true rfl⟩ rfl d_TC_load_36 ?_
    refine kw_iast X (k := (9, c, 0)) (ks_d9 hc) rfl (by decide) (q_mA x) (q_lA x) rfl d_TC_load_39 ?_
    refine tk_iconst (v := 4) X d_TC_load_40 (by decide) ?_
    have e1 : k_load (ks_n P) (ks_S P) (ks_W P) a c x = (4, ks_up (k_acc (ks_n P) (ks_S P) (ks_W P) a c (q_ln (k_addr a c x)) false).2 (9, c, 0) (q_ix (q_A x)) (k_wget (k_acc (ks_n P) (ks_S P) (ks_W P) a c (q_ln (k_addr a c x)) false).2 c j (k_addr a c x))) := by unfold k_load; rw [hf]
    exact tk_iret X hlk hr d_TC_load_41 (by rw [e1]) (fun _ h => h) (Or.inr rfl) (kw_st (by rw [e1]; try rfl) rfl rfl)

set_option maxRecDepth 100000 in
set_option maxHeartbeats 4000000 in
theorem c_TC_save (l : Launch) (P : ks_P) (hP : ks_ok P) (c : Nat) (hc : c < ks_n P) (x : Int32) (a b : ks_M) (o : ks_O) : kc l P y_TC_save b_TC_save 5 (some .int) 5 [.ref (tk_ad (ks_G P) (0, 0, 0)), .ref (tk_ad (ks_G P) (4, c, 0)), .int x] a b o (some (.int (k_save (ks_n P) (ks_S P) (ks_W P) a c x).1)) (k_save (ks_n P) (ks_S P) (ks_W P) a c x).2 b o := by
  have hn64 := ks_n64 hP
  have hT64 := ks_T64 hP
  refine tk_of hP.2.2.2.2.2 (by decide) rfl (Nat.le_of_ble_eq_true rfl) ?_
  intro p e s m below meth c0 X hlk hr hnm
  refine tk_aload_n X d_TC_save_0 rfl rfl ?_
  refine tk_iload_n X d_TC_save_1 rfl rfl ?_
  refine tk_callV X (kb := (4, c, 0)) (ks_d4 hc) rfl hc_Core (c_Core_addressOf l P hP c hc x a b o) (ks_site (n := 1) mc_Core_addressOf mi_Core (by decide +kernel) (by decide) (by decide)) m_TC_173 ms_Core_addressOf mv_Core_addressOf rfl (Nat.le_of_ble_eq_true rfl) ⟨Nat.le_of_ble_eq_true rfl, Nat.le_of_ble_eq_true rfl⟩ rfl d_TC_save_2 ?_
  refine tk_istore_n X d_TC_save_5 rfl (by decide) rfl ?_
  refine tk_aload_n X d_TC_save_6 rfl rfl ?_
  refine tk_aload_n X d_TC_save_7 rfl rfl ?_
  refine tk_iload_n X d_TC_save_8 rfl rfl ?_
  refine tk_callS X (c_TC_lineOf2 l P hP (k_addr a c x) a b o) (ks_site (n := 1) mc_TC_lineOf mi_TC (by decide +kernel) (by decide) (by decide)) m_TC_44 ms_TC_lineOf rfl (Nat.le_of_ble_eq_true rfl) ⟨Nat.le_of_ble_eq_true rfl, Nat.le_of_ble_eq_true rfl⟩ rfl d_TC_save_9 ?_
  refine tk_iconst (v := 1) X d_TC_save_12 (by decide) ?_
  refine tk_callV X (kb := (0, 0, 0)) (ks_d0 (by decide)) rfl hc_TC (c_TC_access l P hP c (q_ln (k_addr a c x)) hc (q_ln_lt _) true a b o) (ks_site (n := 3) mc_TC_access mi_TC (by decide +kernel) (by decide) (by decide)) m_TC_176 ms_TC_access mv_TC_access rfl (Nat.le_of_ble_eq_true rfl) ⟨Nat.le_of_ble_eq_true rfl, Nat.le_of_ble_eq_true rfl⟩ rfl d_TC_save_13 ?_
  cases hf : (k_acc (ks_n P) (ks_S P) (ks_W P) a c (q_ln (k_addr a c x)) true).1 with
  | none =>
    refine tk_astoreN X d_TC_save_16 (by decide) rfl ?_
    refine tk_aloadN X d_TC_save_18 rfl ?_
    refine tk_ifnonnullN X d_TC_save_20 ?_
    refine tk_iconst (v := 2) X d_TC_save_23 (by decide) ?_
    have e1 : k_save (ks_n P) (ks_S P) (ks_W P) a c x = (2, (k_acc (ks_n P) (ks_S P) (ks_W P) a c (q_ln (k_addr a c x)) true).2) := by unfold k_save; rw [hf]
    exact tk_iret X hlk hr d_TC_save_24 (by rw [e1]) (fun _ h => h) (Or.inr rfl) (kw_st (by rw [e1]) rfl rfl)
  | some j =>
    have hj : j < ks_T P := k_acc_lt hP hf
    refine tk_astore X d_TC_save_16 (by decide) rfl ?_
    refine tk_aload X d_TC_save_18 rfl ?_
    refine tk_ifnonnull (tgt := 25) X d_TC_save_20 (by decide) ?_
    refine tk_aload X d_TC_save_25 rfl ?_
    refine tk_iload_n X d_TC_save_27 rfl rfl ?_
    refine tk_aload_n X d_TC_save_28 rfl rfl ?_
    refine tk_getN X (k := (4, c, 0)) (dm := ks_dm P) (ks_d4 hc) rfl hc_Core hi_Core 3 (by decide) n_TC_104 (v := .ref (tk_ad (ks_G P) (9, c, 0))) rfl d_TC_save_29 ?_
    refine tk_iload_n X d_TC_save_32 rfl rfl ?_
    refine tk_callS X (c_TC_registerA l P hP x (k_acc (ks_n P) (ks_S P) (ks_W P) a c (q_ln (k_addr a c x)) true).2 b o) (ks_site (n := 1) mc_TC_registerA mi_TC (by decide +kernel) (by decide) (by decide)) m_TC_180 ms_TC_registerA rfl (Nat.le_of_ble_eq_true rfl) ⟨Nat.le_of_ble_eq_true rfl, Nat.le_of_ble_eq_true rfl⟩ rfl d_TC_save_33 ?_
    refine kw_iald X (k := (9, c, 0)) (ks_d9 hc) rfl (by decide) (q_mA x) (q_lA x) (v := _) rfl d_TC_save_36 ?_
    refine tk_callV X (kb := (7, c, j)) (ks_d7 hc hj) rfl hc_Way (c_Way_put l P hP c j hc hj (k_addr a c x) _ (k_acc (ks_n P) (ks_S P) (ks_W P) a c (q_ln (k_addr a c x)) true).2 b o) (ks_site (n := 2) mc_Way_put mi_Way (by decide +kernel) (by decide) (by decide)) m_TC_183 ms_Way_put mv_Way_put rfl (Nat.le_of_ble_eq_true rfl) ⟨Nat.le_of_ble_eq_true rfl, Nat.le_of_ble_eq_true rfl⟩ rfl d_TC_save_37 ?_
    refine tk_iconst (v := 4) X d_TC_save_40 (by decide) ?_
    have e1 : k_save (ks_n P) (ks_S P) (ks_W P) a c x = (4, k_wput (k_acc (ks_n P) (ks_S P) (ks_W P) a c (q_ln (k_addr a c x)) true).2 c j (k_addr a c x) (k_reg (k_acc (ks_n P) (ks_S P) (ks_W P) a c (q_ln (k_addr a c x)) true).2 c (q_A x))) := by unfold k_save; rw [hf]
    exact tk_iret X hlk hr d_TC_save_41 (by rw [e1]) (fun _ h => h) (Or.inr rfl) (kw_st (by rw [e1]; try rfl) rfl rfl)

set_option maxRecDepth 100000 in
set_option maxHeartbeats 4000000 in
theorem c_TC_takeStep (l : Launch) (P : ks_P) (hP : ks_ok P) (c : Nat) (hc : c < ks_n P) (a b : ks_M) (o : ks_O) (hp : q_pc (a (4, c, 0) 6)) : kc l P y_TC_takeStep b_TC_takeStep 4 (some .int) 6 [.ref (tk_ad (ks_G P) (0, 0, 0)), .ref (tk_ad (ks_G P) (4, c, 0))] a b o (some (.int (k_step (ks_n P) (ks_S P) (ks_W P) a c).1)) (k_step (ks_n P) (ks_S P) (ks_W P) a c).2 b o := by
  have hn64 := ks_n64 hP
  have hT64 := ks_T64 hP
  refine tk_of hP.2.2.2.2.2 (by decide) rfl (Nat.le_of_ble_eq_true rfl) ?_
  intro p e s m below meth c0 X hlk hr hnm
  refine tk_aload_n X d_TC_takeStep_0 rfl rfl ?_
  refine tk_getN X (k := (4, c, 0)) (dm := ks_dm P) (ks_d4 hc) rfl hc_Core hi_Core 9 (by decide) n_TC_100 (v := .int _) rfl d_TC_takeStep_1 ?_
  refine tk_if_eq (tgt := 9) X d_TC_takeStep_4 (by decide) (fun h1 => ?_) (fun h1 => ?_)
  · skip
    refine tk_aload_n X d_TC_takeStep_9 rfl rfl ?_
    refine tk_getN X (k := (4, c, 0)) (dm := ks_dm P) (ks_d4 hc) rfl hc_Core hi_Core 6 (by decide) n_TC_97 (v := .int _) rfl d_TC_takeStep_10 ?_
    refine tk_istore_n X d_TC_takeStep_13 rfl (by decide) rfl ?_
    refine tk_aload_n X d_TC_takeStep_14 rfl rfl ?_
    refine tk_getN X (k := (4, c, 0)) (dm := ks_dm P) (ks_d4 hc) rfl hc_Core hi_Core 2 (by decide) n_TC_40 (v := .ref (tk_ad (ks_G P) (8, c, 0))) rfl d_TC_takeStep_15 ?_
    refine tk_iload_n X d_TC_takeStep_18 rfl rfl ?_
    refine kw_iald X (k := (8, c, 0)) (ks_d8 hc) rfl (by decide) hp.1 hp.2 (v := _) rfl d_TC_takeStep_19 ?_
    refine tk_istore_n X d_TC_takeStep_20 rfl (by decide) rfl ?_
    refine tk_aload_n X d_TC_takeStep_21 rfl rfl ?_
    refine tk_iload_n X d_TC_takeStep_22 rfl rfl ?_
    refine tk_iconst (v := 1) X d_TC_takeStep_23 (by decide) ?_
    refine tk_iadd X d_TC_takeStep_24 ?_
    refine tk_callS X (c_TC_place l P hP _ a b o) (ks_site (n := 1) mc_TC_place mi_TC (by decide +kernel) (by decide) (by decide)) m_TC_94 ms_TC_place rfl (Nat.le_of_ble_eq_true rfl) ⟨Nat.le_of_ble_eq_true rfl, Nat.le_of_ble_eq_true rfl⟩ rfl d_TC_takeStep_25 ?_
    refine kw_putN X (k := (4, c, 0)) (ks_d4 hc) rfl hc_Core hi_Core t_Core t_Core_ok n_Core 6 (by decide) rfl n_TC_97 rfl rfl rfl d_TC_takeStep_28 ?_
    refine tk_iload_n X d_TC_takeStep_31 rfl rfl ?_
    refine tk_callS X (c_TC_kindOf l P hP (k_word a c) (k_next a c) b o) (ks_site (n := 1) mc_TC_kindOf mi_TC (by decide +kernel) (by decide) (by decide)) m_TC_143 ms_TC_kindOf rfl (Nat.le_of_ble_eq_true rfl) ⟨Nat.le_of_ble_eq_true rfl, Nat.le_of_ble_eq_true rfl⟩ rfl d_TC_takeStep_32 ?_
    by_cases h2 : (k_word a c) &&& 15 = 0
    · skip
      refine tk_tableAt (K := 0) (tgt := 104) X h2 d_TC_takeStep_35 (by decide) (by decide) rfl (by decide) ?_
      refine tk_aload_n X d_TC_takeStep_104 rfl rfl ?_
      refine tk_iload_n X d_TC_takeStep_105 rfl rfl ?_
      refine kw_putN X (k := (4, c, 0)) (ks_d4 hc) rfl hc_Core hi_Core t_Core t_Core_ok n_Core 6 (by decide) rfl n_TC_97 rfl rfl rfl d_TC_takeStep_106 ?_
      refine tk_iconst (v := 1) X d_TC_takeStep_109 (by decide) ?_
      have e0 : k_step (ks_n P) (ks_S P) (ks_W P) a c = k_do (ks_n P) (ks_S P) (ks_W P) (k_next a c) c (k_word a c) (a (4, c, 0) 6) := if_pos h1
      have e1 : k_do (ks_n P) (ks_S P) (ks_W P) (k_next a c) c (k_word a c) (a (4, c, 0) 6) = _ := (if_pos h2)
      exact tk_iret X hlk hr d_TC_takeStep_110 (by rw [e0, e1]) (fun _ h => h) (Or.inr rfl) (kw_st (by rw [e0, e1]; try rfl) rfl rfl)
    by_cases h3 : (k_word a c) &&& 15 = 1
    · skip
      refine tk_tableAt (K := 1) (tgt := 111) X h3 d_TC_takeStep_35 (by decide) (by decide) rfl (by decide) ?_
      refine tk_aload_n X d_TC_takeStep_111 rfl rfl ?_
      refine tk_iload_n X d_TC_takeStep_112 rfl rfl ?_
      refine tk_callV X (kb := (4, c, 0)) (ks_d4 hc) rfl hc_Core (c_Core_reckon l P hP c hc (k_word a c) (k_next a c) b o) (ks_site (n := 1) mc_Core_reckon mi_Core (by decide +kernel) (by decide) (by decide)) m_TC_146 ms_Core_reckon mv_Core_reckon rfl (Nat.le_of_ble_eq_true rfl) ⟨Nat.le_of_ble_eq_true rfl, Nat.le_of_ble_eq_true rfl⟩ rfl d_TC_takeStep_113 ?_
      refine tk_iconst (v := 4) X d_TC_takeStep_116 (by decide) ?_
      have e0 : k_step (ks_n P) (ks_S P) (ks_W P) a c = k_do (ks_n P) (ks_S P) (ks_W P) (k_next a c) c (k_word a c) (a (4, c, 0) 6) := if_pos h1
      have e1 : k_do (ks_n P) (ks_S P) (ks_W P) (k_next a c) c (k_word a c) (a (4, c, 0) 6) = _ := (((((((((if_neg (fun z => absurd (h3.symm.trans z) (by decide))).trans (if_neg (fun z => absurd (h3.symm.trans z) (by decide)))).trans (if_neg (fun z => absurd (h3.symm.trans z) (by decide)))).trans (if_neg (fun z => absurd (h3.symm.trans z) (by decide)))).trans (if_neg (fun z => absurd (h3.symm.trans z) (by decide)))).trans (if_neg (fun z => absurd (h3.symm.trans z) (by decide)))).trans (if_neg (fun z => absurd (h3.symm.trans z) (by decide)))).trans (if_neg (fun z => absurd (h3.symm.trans z) (by decide)))).trans (if_pos h3))
      exact tk_iret X hlk hr d_TC_takeStep_117 (by rw [e0, e1]) (fun _ h => h) (Or.inr rfl) (kw_st (by rw [e0, e1]; try rfl) rfl rfl)
    by_cases h4 : (k_word a c) &&& 15 = 2
    · skip
      refine tk_tableAt (K := 2) (tgt := 111) X h4 d_TC_takeStep_35 (by decide) (by decide) rfl (by decide) ?_
      refine tk_aload_n X d_TC_takeStep_111 rfl rfl ?_
      refine tk_iload_n X d_TC_takeStep_112 rfl rfl ?_
      refine tk_callV X (kb := (4, c, 0)) (ks_d4 hc) rfl hc_Core (c_Core_reckon l P hP c hc (k_word a c) (k_next a c) b o) (ks_site (n := 1) mc_Core_reckon mi_Core (by decide +kernel) (by decide) (by decide)) m_TC_146 ms_Core_reckon mv_Core_reckon rfl (Nat.le_of_ble_eq_true rfl) ⟨Nat.le_of_ble_eq_true rfl, Nat.le_of_ble_eq_true rfl⟩ rfl d_TC_takeStep_113 ?_
      refine tk_iconst (v := 4) X d_TC_takeStep_116 (by decide) ?_
      have e0 : k_step (ks_n P) (ks_S P) (ks_W P) a c = k_do (ks_n P) (ks_S P) (ks_W P) (k_next a c) c (k_word a c) (a (4, c, 0) 6) := if_pos h1
      have e1 : k_do (ks_n P) (ks_S P) (ks_W P) (k_next a c) c (k_word a c) (a (4, c, 0) 6) = _ := ((((((((((if_neg (fun z => absurd (h4.symm.trans z) (by decide))).trans (if_neg (fun z => absurd (h4.symm.trans z) (by decide)))).trans (if_neg (fun z => absurd (h4.symm.trans z) (by decide)))).trans (if_neg (fun z => absurd (h4.symm.trans z) (by decide)))).trans (if_neg (fun z => absurd (h4.symm.trans z) (by decide)))).trans (if_neg (fun z => absurd (h4.symm.trans z) (by decide)))).trans (if_neg (fun z => absurd (h4.symm.trans z) (by decide)))).trans (if_neg (fun z => absurd (h4.symm.trans z) (by decide)))).trans (if_neg (fun z => absurd (h4.symm.trans z) (by decide)))).trans (if_pos h4))
      exact tk_iret X hlk hr d_TC_takeStep_117 (by rw [e0, e1]) (fun _ h => h) (Or.inr rfl) (kw_st (by rw [e0, e1]; try rfl) rfl rfl)
    by_cases h5 : (k_word a c) &&& 15 = 3
    · skip
      refine tk_tableAt (K := 3) (tgt := 111) X h5 d_TC_takeStep_35 (by decide) (by decide) rfl (by decide) ?_
      refine tk_aload_n X d_TC_takeStep_111 rfl rfl ?_
      refine tk_iload_n X d_TC_takeStep_112 rfl rfl ?_
      refine tk_callV X (kb := (4, c, 0)) (ks_d4 hc) rfl hc_Core (c_Core_reckon l P hP c hc (k_word a c) (k_next a c) b o) (ks_site (n := 1) mc_Core_reckon mi_Core (by decide +kernel) (by decide) (by decide)) m_TC_146 ms_Core_reckon mv_Core_reckon rfl (Nat.le_of_ble_eq_true rfl) ⟨Nat.le_of_ble_eq_true rfl, Nat.le_of_ble_eq_true rfl⟩ rfl d_TC_takeStep_113 ?_
      refine tk_iconst (v := 4) X d_TC_takeStep_116 (by decide) ?_
      have e0 : k_step (ks_n P) (ks_S P) (ks_W P) a c = k_do (ks_n P) (ks_S P) (ks_W P) (k_next a c) c (k_word a c) (a (4, c, 0) 6) := if_pos h1
      have e1 : k_do (ks_n P) (ks_S P) (ks_W P) (k_next a c) c (k_word a c) (a (4, c, 0) 6) = _ := (((((((((((if_neg (fun z => absurd (h5.symm.trans z) (by decide))).trans (if_neg (fun z => absurd (h5.symm.trans z) (by decide)))).trans (if_neg (fun z => absurd (h5.symm.trans z) (by decide)))).trans (if_neg (fun z => absurd (h5.symm.trans z) (by decide)))).trans (if_neg (fun z => absurd (h5.symm.trans z) (by decide)))).trans (if_neg (fun z => absurd (h5.symm.trans z) (by decide)))).trans (if_neg (fun z => absurd (h5.symm.trans z) (by decide)))).trans (if_neg (fun z => absurd (h5.symm.trans z) (by decide)))).trans (if_neg (fun z => absurd (h5.symm.trans z) (by decide)))).trans (if_neg (fun z => absurd (h5.symm.trans z) (by decide)))).trans (if_pos h5))
      exact tk_iret X hlk hr d_TC_takeStep_117 (by rw [e0, e1]) (fun _ h => h) (Or.inr rfl) (kw_st (by rw [e0, e1]; try rfl) rfl rfl)
    by_cases h6 : (k_word a c) &&& 15 = 4
    · skip
      refine tk_tableAt (K := 4) (tgt := 111) X h6 d_TC_takeStep_35 (by decide) (by decide) rfl (by decide) ?_
      refine tk_aload_n X d_TC_takeStep_111 rfl rfl ?_
      refine tk_iload_n X d_TC_takeStep_112 rfl rfl ?_
      refine tk_callV X (kb := (4, c, 0)) (ks_d4 hc) rfl hc_Core (c_Core_reckon l P hP c hc (k_word a c) (k_next a c) b o) (ks_site (n := 1) mc_Core_reckon mi_Core (by decide +kernel) (by decide) (by decide)) m_TC_146 ms_Core_reckon mv_Core_reckon rfl (Nat.le_of_ble_eq_true rfl) ⟨Nat.le_of_ble_eq_true rfl, Nat.le_of_ble_eq_true rfl⟩ rfl d_TC_takeStep_113 ?_
      refine tk_iconst (v := 4) X d_TC_takeStep_116 (by decide) ?_
      have e0 : k_step (ks_n P) (ks_S P) (ks_W P) a c = k_do (ks_n P) (ks_S P) (ks_W P) (k_next a c) c (k_word a c) (a (4, c, 0) 6) := if_pos h1
      have e1 : k_do (ks_n P) (ks_S P) (ks_W P) (k_next a c) c (k_word a c) (a (4, c, 0) 6) = _ := ((((((((((((if_neg (fun z => absurd (h6.symm.trans z) (by decide))).trans (if_neg (fun z => absurd (h6.symm.trans z) (by decide)))).trans (if_neg (fun z => absurd (h6.symm.trans z) (by decide)))).trans (if_neg (fun z => absurd (h6.symm.trans z) (by decide)))).trans (if_neg (fun z => absurd (h6.symm.trans z) (by decide)))).trans (if_neg (fun z => absurd (h6.symm.trans z) (by decide)))).trans (if_neg (fun z => absurd (h6.symm.trans z) (by decide)))).trans (if_neg (fun z => absurd (h6.symm.trans z) (by decide)))).trans (if_neg (fun z => absurd (h6.symm.trans z) (by decide)))).trans (if_neg (fun z => absurd (h6.symm.trans z) (by decide)))).trans (if_neg (fun z => absurd (h6.symm.trans z) (by decide)))).trans (if_pos h6))
      exact tk_iret X hlk hr d_TC_takeStep_117 (by rw [e0, e1]) (fun _ h => h) (Or.inr rfl) (kw_st (by rw [e0, e1]; try rfl) rfl rfl)
    by_cases h7 : (k_word a c) &&& 15 = 5
    · skip
      refine tk_tableAt (K := 5) (tgt := 118) X h7 d_TC_takeStep_35 (by decide) (by decide) rfl (by decide) ?_
      refine tk_aload_n X d_TC_takeStep_118 rfl rfl ?_
      refine tk_aload_n X d_TC_takeStep_119 rfl rfl ?_
      refine tk_iload_n X d_TC_takeStep_120 rfl rfl ?_
      refine tk_callV X (kb := (0, 0, 0)) (ks_d0 (by decide)) rfl hc_TC (c_TC_load l P hP c hc (k_word a c) (k_next a c) b o) (ks_site (n := 2) mc_TC_load mi_TC (by decide +kernel) (by decide) (by decide)) m_TC_150 ms_TC_load mv_TC_load rfl (Nat.le_of_ble_eq_true rfl) ⟨Nat.le_of_ble_eq_true rfl, Nat.le_of_ble_eq_true rfl⟩ rfl d_TC_takeStep_121 ?_
      have e0 : k_step (ks_n P) (ks_S P) (ks_W P) a c = k_do (ks_n P) (ks_S P) (ks_W P) (k_next a c) c (k_word a c) (a (4, c, 0) 6) := if_pos h1
      have e1 : k_do (ks_n P) (ks_S P) (ks_W P) (k_next a c) c (k_word a c) (a (4, c, 0) 6) = _ := ((if_neg (fun z => absurd (h7.symm.trans z) (by decide))).trans (if_pos h7))
      exact tk_iret X hlk hr d_TC_takeStep_124 (by rw [e0, e1]) (fun _ h => h) (Or.inr rfl) (kw_st (by rw [e0, e1]; try rfl) rfl rfl)
    by_cases h8 : (k_word a c) &&& 15 = 6
    · skip
      refine tk_tableAt (K := 6) (tgt := 125) X h8 d_TC_takeStep_35 (by decide) (by decide) rfl (by decide) ?_
      refine tk_aload_n X d_TC_takeStep_125 rfl rfl ?_
      refine tk_aload_n X d_TC_takeStep_126 rfl rfl ?_
      refine tk_iload_n X d_TC_takeStep_127 rfl rfl ?_
      refine tk_callV X (kb := (0, 0, 0)) (ks_d0 (by decide)) rfl hc_TC (c_TC_save l P hP c hc (k_word a c) (k_next a c) b o) (ks_site (n := 2) mc_TC_save mi_TC (by decide +kernel) (by decide) (by decide)) m_TC_154 ms_TC_save mv_TC_save rfl (Nat.le_of_ble_eq_true rfl) ⟨Nat.le_of_ble_eq_true rfl, Nat.le_of_ble_eq_true rfl⟩ rfl d_TC_takeStep_128 ?_
      have e0 : k_step (ks_n P) (ks_S P) (ks_W P) a c = k_do (ks_n P) (ks_S P) (ks_W P) (k_next a c) c (k_word a c) (a (4, c, 0) 6) := if_pos h1
      have e1 : k_do (ks_n P) (ks_S P) (ks_W P) (k_next a c) c (k_word a c) (a (4, c, 0) 6) = _ := (((if_neg (fun z => absurd (h8.symm.trans z) (by decide))).trans (if_neg (fun z => absurd (h8.symm.trans z) (by decide)))).trans (if_pos h8))
      exact tk_iret X hlk hr d_TC_takeStep_131 (by rw [e0, e1]) (fun _ h => h) (Or.inr rfl) (kw_st (by rw [e0, e1]; try rfl) rfl rfl)
    by_cases h9 : (k_word a c) &&& 15 = 7
    · skip
      refine tk_tableAt (K := 7) (tgt := 132) X h9 d_TC_takeStep_35 (by decide) (by decide) rfl (by decide) ?_
      refine tk_aload_n X d_TC_takeStep_132 rfl rfl ?_
      refine tk_iload_n X d_TC_takeStep_133 rfl rfl ?_
      refine tk_callV X (kb := (4, c, 0)) (ks_d4 hc) rfl hc_Core (c_Core_branch l P hP c hc (k_word a c) (k_next a c) b o) (ks_site (n := 1) mc_Core_branch mi_Core (by decide +kernel) (by decide) (by decide)) m_TC_157 ms_Core_branch mv_Core_branch rfl (Nat.le_of_ble_eq_true rfl) ⟨Nat.le_of_ble_eq_true rfl, Nat.le_of_ble_eq_true rfl⟩ rfl d_TC_takeStep_134 ?_
      refine tk_iconst (v := 4) X d_TC_takeStep_137 (by decide) ?_
      have e0 : k_step (ks_n P) (ks_S P) (ks_W P) a c = k_do (ks_n P) (ks_S P) (ks_W P) (k_next a c) c (k_word a c) (a (4, c, 0) 6) := if_pos h1
      have e1 : k_do (ks_n P) (ks_S P) (ks_W P) (k_next a c) c (k_word a c) (a (4, c, 0) 6) = _ := ((((if_neg (fun z => absurd (h9.symm.trans z) (by decide))).trans (if_neg (fun z => absurd (h9.symm.trans z) (by decide)))).trans (if_neg (fun z => absurd (h9.symm.trans z) (by decide)))).trans (if_pos h9))
      exact tk_iret X hlk hr d_TC_takeStep_138 (by rw [e0, e1]) (fun _ h => h) (Or.inr rfl) (kw_st (by rw [e0, e1]; try rfl) rfl rfl)
    by_cases h10 : (k_word a c) &&& 15 = 8
    · skip
      refine tk_tableAt (K := 8) (tgt := 132) X h10 d_TC_takeStep_35 (by decide) (by decide) rfl (by decide) ?_
      refine tk_aload_n X d_TC_takeStep_132 rfl rfl ?_
      refine tk_iload_n X d_TC_takeStep_133 rfl rfl ?_
      refine tk_callV X (kb := (4, c, 0)) (ks_d4 hc) rfl hc_Core (c_Core_branch l P hP c hc (k_word a c) (k_next a c) b o) (ks_site (n := 1) mc_Core_branch mi_Core (by decide +kernel) (by decide) (by decide)) m_TC_157 ms_Core_branch mv_Core_branch rfl (Nat.le_of_ble_eq_true rfl) ⟨Nat.le_of_ble_eq_true rfl, Nat.le_of_ble_eq_true rfl⟩ rfl d_TC_takeStep_134 ?_
      refine tk_iconst (v := 4) X d_TC_takeStep_137 (by decide) ?_
      have e0 : k_step (ks_n P) (ks_S P) (ks_W P) a c = k_do (ks_n P) (ks_S P) (ks_W P) (k_next a c) c (k_word a c) (a (4, c, 0) 6) := if_pos h1
      have e1 : k_do (ks_n P) (ks_S P) (ks_W P) (k_next a c) c (k_word a c) (a (4, c, 0) 6) = _ := (((((if_neg (fun z => absurd (h10.symm.trans z) (by decide))).trans (if_neg (fun z => absurd (h10.symm.trans z) (by decide)))).trans (if_neg (fun z => absurd (h10.symm.trans z) (by decide)))).trans (if_neg (fun z => absurd (h10.symm.trans z) (by decide)))).trans (if_pos h10))
      exact tk_iret X hlk hr d_TC_takeStep_138 (by rw [e0, e1]) (fun _ h => h) (Or.inr rfl) (kw_st (by rw [e0, e1]; try rfl) rfl rfl)
    by_cases h11 : (k_word a c) &&& 15 = 9
    · skip
      refine tk_tableAt (K := 9) (tgt := 139) X h11 d_TC_takeStep_35 (by decide) (by decide) rfl (by decide) ?_
      refine tk_aload_n X d_TC_takeStep_139 rfl rfl ?_
      refine tk_iload_n X d_TC_takeStep_140 rfl rfl ?_
      refine tk_callS X (c_TC_immediateOf l P hP (k_word a c) (k_next a c) b o) (ks_site (n := 1) mc_TC_immediateOf mi_TC (by decide +kernel) (by decide) (by decide)) m_TC_140 ms_TC_immediateOf rfl (Nat.le_of_ble_eq_true rfl) ⟨Nat.le_of_ble_eq_true rfl, Nat.le_of_ble_eq_true rfl⟩ rfl d_TC_takeStep_141 ?_
      refine tk_callV X (kb := (4, c, 0)) (ks_d4 hc) rfl hc_Core (c_Core_begin l P hP c hc (q_imm (k_word a c)) (k_next a c) b o) (ks_site (n := 1) mc_Core_begin mi_Core (by decide +kernel) (by decide) (by decide)) m_TC_160 ms_Core_begin mv_Core_begin rfl (Nat.le_of_ble_eq_true rfl) ⟨Nat.le_of_ble_eq_true rfl, Nat.le_of_ble_eq_true rfl⟩ rfl d_TC_takeStep_144 ?_
      have e0 : k_step (ks_n P) (ks_S P) (ks_W P) a c = k_do (ks_n P) (ks_S P) (ks_W P) (k_next a c) c (k_word a c) (a (4, c, 0) 6) := if_pos h1
      have e1 : k_do (ks_n P) (ks_S P) (ks_W P) (k_next a c) c (k_word a c) (a (4, c, 0) 6) = _ := ((((((if_neg (fun z => absurd (h11.symm.trans z) (by decide))).trans (if_neg (fun z => absurd (h11.symm.trans z) (by decide)))).trans (if_neg (fun z => absurd (h11.symm.trans z) (by decide)))).trans (if_neg (fun z => absurd (h11.symm.trans z) (by decide)))).trans (if_neg (fun z => absurd (h11.symm.trans z) (by decide)))).trans (if_pos h11))
      exact tk_iret X hlk hr d_TC_takeStep_147 (by rw [e0, e1]) (fun _ h => h) (Or.inr rfl) (kw_st (by rw [e0, e1]; try rfl) rfl rfl)
    by_cases h12 : (k_word a c) &&& 15 = 10
    · skip
      refine tk_tableAt (K := 10) (tgt := 148) X h12 d_TC_takeStep_35 (by decide) (by decide) rfl (by decide) ?_
      refine tk_aload_n X d_TC_takeStep_148 rfl rfl ?_
      refine tk_getN X (k := (4, c, 0)) (dm := ks_dm P) (ks_d4 hc) rfl hc_Core hi_Core 8 (by decide) n_TC_86 (v := .int _) rfl d_TC_takeStep_149 ?_
      refine tk_if_ne (tgt := 163) X d_TC_takeStep_152 (by decide) (fun h13 => ?_) (fun h13 => ?_)
      · skip
        refine tk_aload_n X d_TC_takeStep_163 rfl rfl ?_
        refine tk_callV X (kb := (4, c, 0)) (ks_d4 hc) rfl hc_Core (c_Core_end l P hP c hc (k_next a c) b o) (ks_site (n := 0) mc_Core_end mi_Core (by decide +kernel) (by decide) (by decide)) m_TC_166 ms_Core_end mv_Core_end rfl (Nat.le_of_ble_eq_true rfl) ⟨Nat.le_of_ble_eq_true rfl, Nat.le_of_ble_eq_true rfl⟩ rfl d_TC_takeStep_164 ?_
        have e0 : k_step (ks_n P) (ks_S P) (ks_W P) a c = k_do (ks_n P) (ks_S P) (ks_W P) (k_next a c) c (k_word a c) (a (4, c, 0) 6) := if_pos h1
        have e1 : k_do (ks_n P) (ks_S P) (ks_W P) (k_next a c) c (k_word a c) (a (4, c, 0) 6) = _ := ((((((((if_neg (fun z => absurd (h12.symm.trans z) (by decide))).trans (if_neg (fun z => absurd (h12.symm.trans z) (by decide)))).trans (if_neg (fun z => absurd (h12.symm.trans z) (by decide)))).trans (if_neg (fun z => absurd (h12.symm.trans z) (by decide)))).trans (if_neg (fun z => absurd (h12.symm.trans z) (by decide)))).trans (if_neg (fun z => absurd (h12.symm.trans z) (by decide)))).trans (if_pos h12)).trans (if_neg h13))
        exact tk_iret X hlk hr d_TC_takeStep_167 (by rw [e0, e1]) (fun _ h => h) (Or.inr rfl) (kw_st (by rw [e0, e1]; try rfl) rfl rfl)
      · skip
        refine tk_aload_n X d_TC_takeStep_155 rfl rfl ?_
        refine tk_iload_n X d_TC_takeStep_156 rfl rfl ?_
        refine tk_callV X (kb := (4, c, 0)) (ks_d4 hc) rfl hc_Core (c_Core_fault l P hP c hc (a (4, c, 0) 6) (k_next a c) b o) (ks_site (n := 1) mc_Core_fault mi_Core (by decide +kernel) (by decide) (by decide)) m_TC_163 ms_Core_fault mv_Core_fault rfl (Nat.le_of_ble_eq_true rfl) ⟨Nat.le_of_ble_eq_true rfl, Nat.le_of_ble_eq_true rfl⟩ rfl d_TC_takeStep_157 ?_
        refine tk_goto (tgt := 167) X d_TC_takeStep_160 (by decide) ?_
        have e0 : k_step (ks_n P) (ks_S P) (ks_W P) a c = k_do (ks_n P) (ks_S P) (ks_W P) (k_next a c) c (k_word a c) (a (4, c, 0) 6) := if_pos h1
        have e1 : k_do (ks_n P) (ks_S P) (ks_W P) (k_next a c) c (k_word a c) (a (4, c, 0) 6) = _ := ((((((((if_neg (fun z => absurd (h12.symm.trans z) (by decide))).trans (if_neg (fun z => absurd (h12.symm.trans z) (by decide)))).trans (if_neg (fun z => absurd (h12.symm.trans z) (by decide)))).trans (if_neg (fun z => absurd (h12.symm.trans z) (by decide)))).trans (if_neg (fun z => absurd (h12.symm.trans z) (by decide)))).trans (if_neg (fun z => absurd (h12.symm.trans z) (by decide)))).trans (if_pos h12)).trans (if_pos h13))
        exact tk_iret X hlk hr d_TC_takeStep_167 (by rw [e0, e1]) (fun _ h => h) (Or.inr rfl) (kw_st (by rw [e0, e1]; try rfl) rfl rfl)
    by_cases h14 : (k_word a c) &&& 15 = 11
    · skip
      refine tk_tableAt (K := 11) (tgt := 168) X h14 d_TC_takeStep_35 (by decide) (by decide) rfl (by decide) ?_
      refine tk_aload_n X d_TC_takeStep_168 rfl rfl ?_
      refine tk_iload_n X d_TC_takeStep_169 rfl rfl ?_
      refine tk_callS X (c_TC_immediateOf l P hP (k_word a c) (k_next a c) b o) (ks_site (n := 1) mc_TC_immediateOf mi_TC (by decide +kernel) (by decide) (by decide)) m_TC_140 ms_TC_immediateOf rfl (Nat.le_of_ble_eq_true rfl) ⟨Nat.le_of_ble_eq_true rfl, Nat.le_of_ble_eq_true rfl⟩ rfl d_TC_takeStep_170 ?_
      refine tk_callV X (kb := (4, c, 0)) (ks_d4 hc) rfl hc_Core (c_Core_giveUp l P hP c hc (q_imm (k_word a c)) (k_next a c) b o) (ks_site (n := 1) mc_Core_giveUp mi_Core (by decide +kernel) (by decide) (by decide)) m_TC_170 ms_Core_giveUp mv_Core_giveUp rfl (Nat.le_of_ble_eq_true rfl) ⟨Nat.le_of_ble_eq_true rfl, Nat.le_of_ble_eq_true rfl⟩ rfl d_TC_takeStep_173 ?_
      have e0 : k_step (ks_n P) (ks_S P) (ks_W P) a c = k_do (ks_n P) (ks_S P) (ks_W P) (k_next a c) c (k_word a c) (a (4, c, 0) 6) := if_pos h1
      have e1 : k_do (ks_n P) (ks_S P) (ks_W P) (k_next a c) c (k_word a c) (a (4, c, 0) 6) = _ := ((((((((if_neg (fun z => absurd (h14.symm.trans z) (by decide))).trans (if_neg (fun z => absurd (h14.symm.trans z) (by decide)))).trans (if_neg (fun z => absurd (h14.symm.trans z) (by decide)))).trans (if_neg (fun z => absurd (h14.symm.trans z) (by decide)))).trans (if_neg (fun z => absurd (h14.symm.trans z) (by decide)))).trans (if_neg (fun z => absurd (h14.symm.trans z) (by decide)))).trans (if_neg (fun z => absurd (h14.symm.trans z) (by decide)))).trans (if_pos h14))
      exact tk_iret X hlk hr d_TC_takeStep_176 (by rw [e0, e1]) (fun _ h => h) (Or.inr rfl) (kw_st (by rw [e0, e1]; try rfl) rfl rfl)
    by_cases h15 : (k_word a c) &&& 15 = 12
    · skip
      refine tk_tableAt (K := 12) (tgt := 111) X h15 d_TC_takeStep_35 (by decide) (by decide) rfl (by decide) ?_
      refine tk_aload_n X d_TC_takeStep_111 rfl rfl ?_
      refine tk_iload_n X d_TC_takeStep_112 rfl rfl ?_
      refine tk_callV X (kb := (4, c, 0)) (ks_d4 hc) rfl hc_Core (c_Core_reckon l P hP c hc (k_word a c) (k_next a c) b o) (ks_site (n := 1) mc_Core_reckon mi_Core (by decide +kernel) (by decide) (by decide)) m_TC_146 ms_Core_reckon mv_Core_reckon rfl (Nat.le_of_ble_eq_true rfl) ⟨Nat.le_of_ble_eq_true rfl, Nat.le_of_ble_eq_true rfl⟩ rfl d_TC_takeStep_113 ?_
      refine tk_iconst (v := 4) X d_TC_takeStep_116 (by decide) ?_
      have e0 : k_step (ks_n P) (ks_S P) (ks_W P) a c = k_do (ks_n P) (ks_S P) (ks_W P) (k_next a c) c (k_word a c) (a (4, c, 0) 6) := if_pos h1
      have e1 : k_do (ks_n P) (ks_S P) (ks_W P) (k_next a c) c (k_word a c) (a (4, c, 0) 6) = _ := (((((((((((((if_neg (fun z => absurd (h15.symm.trans z) (by decide))).trans (if_neg (fun z => absurd (h15.symm.trans z) (by decide)))).trans (if_neg (fun z => absurd (h15.symm.trans z) (by decide)))).trans (if_neg (fun z => absurd (h15.symm.trans z) (by decide)))).trans (if_neg (fun z => absurd (h15.symm.trans z) (by decide)))).trans (if_neg (fun z => absurd (h15.symm.trans z) (by decide)))).trans (if_neg (fun z => absurd (h15.symm.trans z) (by decide)))).trans (if_neg (fun z => absurd (h15.symm.trans z) (by decide)))).trans (if_neg (fun z => absurd (h15.symm.trans z) (by decide)))).trans (if_neg (fun z => absurd (h15.symm.trans z) (by decide)))).trans (if_neg (fun z => absurd (h15.symm.trans z) (by decide)))).trans (if_neg (fun z => absurd (h15.symm.trans z) (by decide)))).trans (if_pos h15))
      exact tk_iret X hlk hr d_TC_takeStep_117 (by rw [e0, e1]) (fun _ h => h) (Or.inr rfl) (kw_st (by rw [e0, e1]; try rfl) rfl rfl)
    by_cases h16 : (k_word a c) &&& 15 = 13
    · skip
      refine tk_tableAt (K := 13) (tgt := 111) X h16 d_TC_takeStep_35 (by decide) (by decide) rfl (by decide) ?_
      refine tk_aload_n X d_TC_takeStep_111 rfl rfl ?_
      refine tk_iload_n X d_TC_takeStep_112 rfl rfl ?_
      refine tk_callV X (kb := (4, c, 0)) (ks_d4 hc) rfl hc_Core (c_Core_reckon l P hP c hc (k_word a c) (k_next a c) b o) (ks_site (n := 1) mc_Core_reckon mi_Core (by decide +kernel) (by decide) (by decide)) m_TC_146 ms_Core_reckon mv_Core_reckon rfl (Nat.le_of_ble_eq_true rfl) ⟨Nat.le_of_ble_eq_true rfl, Nat.le_of_ble_eq_true rfl⟩ rfl d_TC_takeStep_113 ?_
      refine tk_iconst (v := 4) X d_TC_takeStep_116 (by decide) ?_
      have e0 : k_step (ks_n P) (ks_S P) (ks_W P) a c = k_do (ks_n P) (ks_S P) (ks_W P) (k_next a c) c (k_word a c) (a (4, c, 0) 6) := if_pos h1
      have e1 : k_do (ks_n P) (ks_S P) (ks_W P) (k_next a c) c (k_word a c) (a (4, c, 0) 6) = _ := ((((((((((((((if_neg (fun z => absurd (h16.symm.trans z) (by decide))).trans (if_neg (fun z => absurd (h16.symm.trans z) (by decide)))).trans (if_neg (fun z => absurd (h16.symm.trans z) (by decide)))).trans (if_neg (fun z => absurd (h16.symm.trans z) (by decide)))).trans (if_neg (fun z => absurd (h16.symm.trans z) (by decide)))).trans (if_neg (fun z => absurd (h16.symm.trans z) (by decide)))).trans (if_neg (fun z => absurd (h16.symm.trans z) (by decide)))).trans (if_neg (fun z => absurd (h16.symm.trans z) (by decide)))).trans (if_neg (fun z => absurd (h16.symm.trans z) (by decide)))).trans (if_neg (fun z => absurd (h16.symm.trans z) (by decide)))).trans (if_neg (fun z => absurd (h16.symm.trans z) (by decide)))).trans (if_neg (fun z => absurd (h16.symm.trans z) (by decide)))).trans (if_neg (fun z => absurd (h16.symm.trans z) (by decide)))).trans (if_pos h16))
      exact tk_iret X hlk hr d_TC_takeStep_117 (by rw [e0, e1]) (fun _ h => h) (Or.inr rfl) (kw_st (by rw [e0, e1]; try rfl) rfl rfl)
    refine tk_tableOut (tgt := 177) X d_TC_takeStep_35 (by have := lv_neT (a := 0) h2 (by decide); have := lv_neT (a := 1) h3 (by decide); have := lv_neT (a := 2) h4 (by decide); have := lv_neT (a := 3) h5 (by decide); have := lv_neT (a := 4) h6 (by decide); have := lv_neT (a := 5) h7 (by decide); have := lv_neT (a := 6) h8 (by decide); have := lv_neT (a := 7) h9 (by decide); have := lv_neT (a := 8) h10 (by decide); have := lv_neT (a := 9) h11 (by decide); have := lv_neT (a := 10) h12 (by decide); have := lv_neT (a := 11) h14 (by decide); have := lv_neT (a := 12) h15 (by decide); have := lv_neT (a := 13) h16 (by decide); omega) (by decide) ?_
    refine tk_aload_n X d_TC_takeStep_177 rfl rfl ?_
    refine tk_iload_n X d_TC_takeStep_178 rfl rfl ?_
    refine tk_callV X (kb := (4, c, 0)) (ks_d4 hc) rfl hc_Core (c_Core_fault l P hP c hc (a (4, c, 0) 6) (k_next a c) b o) (ks_site (n := 1) mc_Core_fault mi_Core (by decide +kernel) (by decide) (by decide)) m_TC_163 ms_Core_fault mv_Core_fault rfl (Nat.le_of_ble_eq_true rfl) ⟨Nat.le_of_ble_eq_true rfl, Nat.le_of_ble_eq_true rfl⟩ rfl d_TC_takeStep_179 ?_
    have e0 : k_step (ks_n P) (ks_S P) (ks_W P) a c = k_do (ks_n P) (ks_S P) (ks_W P) (k_next a c) c (k_word a c) (a (4, c, 0) 6) := if_pos h1
    have e1 : k_do (ks_n P) (ks_S P) (ks_W P) (k_next a c) c (k_word a c) (a (4, c, 0) 6) = _ := ((((((((((((((if_neg h2).trans (if_neg h7)).trans (if_neg h8)).trans (if_neg h9)).trans (if_neg h10)).trans (if_neg h11)).trans (if_neg h12)).trans (if_neg h14)).trans (if_neg h3)).trans (if_neg h4)).trans (if_neg h5)).trans (if_neg h6)).trans (if_neg h15)).trans (if_neg h16))
    exact tk_iret X hlk hr d_TC_takeStep_182 (by rw [e0, e1]) (fun _ h => h) (Or.inr rfl) (kw_st (by rw [e0, e1]; try rfl) rfl rfl)
  · skip
    refine tk_iconst (v := 0) X d_TC_takeStep_7 (by decide) ?_
    have e1 : k_step (ks_n P) (ks_S P) (ks_W P) a c = _ := if_neg h1
    exact tk_iret X hlk hr d_TC_takeStep_8 (by rw [e1]) (fun _ h => h) (Or.inr rfl) (kw_st (by rw [e1]) rfl rfl)

set_option maxRecDepth 100000 in
set_option maxHeartbeats 4000000 in
theorem c_TC_memory (l : Launch) (P : ks_P) (hP : ks_ok P) (x : Int32) (a b : ks_M) (o : ks_O) : kc l P y_TC_memory b_TC_memory 2 (some .int) 1 [.ref (tk_ad (ks_G P) (0, 0, 0)), .int x] a b o (some (.int (k_get a x))) a b o := by
  have hn64 := ks_n64 hP
  have hT64 := ks_T64 hP
  refine tk_of hP.2.2.2.2.2 (by decide) rfl (Nat.le_of_ble_eq_true rfl) ?_
  intro p e s m below meth c0 X hlk hr hnm
  refine tk_aload_n X d_TC_memory_0 rfl rfl ?_
  refine tk_get X (k := (0, 0, 0)) (dm := ks_dm P) (ks_d0 (by decide)) rfl hc_TC hi_TC 0 (by decide) m_TC_16 (v := .ref (tk_ad (ks_G P) (1, 0, 0))) rfl d_TC_memory_1 ?_
  refine tk_iload_n X d_TC_memory_4 rfl rfl ?_
  refine tk_callV X (kb := (1, 0, 0)) (ks_d0 (by decide)) rfl hc_Store (c_Store_get l P hP x a b o) (ks_site (n := 1) mc_Store_get mi_Store (by decide +kernel) (by decide) (by decide)) m_TC_74 ms_Store_get mv_Store_get rfl (Nat.le_of_ble_eq_true rfl) ⟨Nat.le_of_ble_eq_true rfl, Nat.le_of_ble_eq_true rfl⟩ rfl d_TC_memory_5 ?_
  exact tk_iret X hlk hr d_TC_memory_8 (rfl) (fun _ h => h) (Or.inr rfl) (fun _ _ => rfl)

set_option maxRecDepth 100000 in
set_option maxHeartbeats 4000000 in
theorem c_TC_requests (l : Launch) (P : ks_P) (hP : ks_ok P)  (a b : ks_M) (o : ks_O) : kc l P y_TC_requests b_TC_requests 1 (some .int) 0 [.ref (tk_ad (ks_G P) (0, 0, 0))] a b o (some (.int (a (0, 0, 0) 2))) a b o := by
  have hn64 := ks_n64 hP
  have hT64 := ks_T64 hP
  refine tk_of hP.2.2.2.2.2 (by decide) rfl (Nat.le_of_ble_eq_true rfl) ?_
  intro p e s m below meth c0 X hlk hr hnm
  refine tk_aload_n X d_TC_requests_0 rfl rfl ?_
  refine tk_get X (k := (0, 0, 0)) (dm := ks_dm P) (ks_d0 (by decide)) rfl hc_TC hi_TC 2 (by decide) m_TC_123 (v := .int _) rfl d_TC_requests_1 ?_
  exact tk_iret X hlk hr d_TC_requests_4 (rfl) (fun _ h => h) (Or.inr rfl) (fun _ _ => rfl)

set_option maxRecDepth 100000 in
set_option maxHeartbeats 4000000 in
theorem c_TC_poke (l : Launch) (P : ks_P) (hP : ks_ok P) (x v : Int32) (a b : ks_M) (o : ks_O) : kc l P y_TC_poke b_TC_poke 3 none 4 [.ref (tk_ad (ks_G P) (0, 0, 0)), .int x, .int v] a b o (none) (k_poke (ks_n P) (ks_S P) (ks_W P) a x v) b o := by
  have hn64 := ks_n64 hP
  have hT64 := ks_T64 hP
  refine tk_of hP.2.2.2.2.2 (by decide) rfl (Nat.le_of_ble_eq_true rfl) ?_
  intro p e s m below meth c0 X hlk hr hnm
  refine tk_aload_n X d_TC_poke_0 rfl rfl ?_
  refine tk_iconst (v := -1) X d_TC_poke_1 (by decide) ?_
  refine tk_iload_n X d_TC_poke_2 rfl rfl ?_
  refine tk_callS X (c_TC_lineOf2 l P hP x a b o) (ks_site (n := 1) mc_TC_lineOf mi_TC (by decide +kernel) (by decide) (by decide)) m_TC_44 ms_TC_lineOf rfl (Nat.le_of_ble_eq_true rfl) ⟨Nat.le_of_ble_eq_true rfl, Nat.le_of_ble_eq_true rfl⟩ rfl d_TC_poke_3 ?_
  refine tk_iconst (v := 1) X d_TC_poke_6 (by decide) ?_
  refine tk_callV X (kb := (0, 0, 0)) (ks_d0 (by decide)) rfl hc_TC (c_TC_sendRequest l P hP (q_ln x) (q_ln_lt x) (-1) true a b o) (ks_site (n := 3) mc_TC_sendRequest mi_TC (by decide +kernel) (by decide) (by decide)) m_TC_47 ms_TC_sendRequest mv_TC_sendRequest rfl (Nat.le_of_ble_eq_true rfl) ⟨Nat.le_of_ble_eq_true rfl, Nat.le_of_ble_eq_true rfl⟩ rfl d_TC_poke_7 ?_
  refine tk_aload_n X d_TC_poke_10 rfl rfl ?_
  refine tk_get X (k := (0, 0, 0)) (dm := ks_dm P) (ks_d0 (by decide)) rfl hc_TC hi_TC 0 (by decide) m_TC_16 (v := .ref (tk_ad (ks_G P) (1, 0, 0))) rfl d_TC_poke_11 ?_
  refine tk_iload_n X d_TC_poke_14 rfl rfl ?_
  refine tk_iload_n X d_TC_poke_15 rfl rfl ?_
  refine tk_callV X (kb := (1, 0, 0)) (ks_d0 (by decide)) rfl hc_Store (c_Store_put l P hP x v _ b o) (ks_site (n := 2) mc_Store_put mi_Store (by decide +kernel) (by decide) (by decide)) m_TC_51 ms_Store_put mv_Store_put rfl (Nat.le_of_ble_eq_true rfl) ⟨Nat.le_of_ble_eq_true rfl, Nat.le_of_ble_eq_true rfl⟩ rfl d_TC_poke_16 ?_
  exact tk_vret X hlk hr d_TC_poke_19 rfl (fun _ h => h) (Or.inr rfl) (fun _ _ => rfl)
end
section
def k_regq (a : ks_M) (c r : Nat) : Int32 := if nI r = 8 then a (4, c, 0) 6 else if nI r = 9 then a (4, c, 0) 8 else if nI r = 10 then (if a (4, c, 0) 9 = 0 then 0 else 1) else a (9, c, 0) r
def k_jumpto (a : ks_M) (c : Nat) (x : Int32) : ks_M := ks_up (ks_up a (4, c, 0) 6 (x &&& 15)) (4, c, 0) 9 0
def k_wayq (a : ks_M) (c j : Nat) (x : Int32) : Int32 := if x = 0 then a (7, c, j) 0 else if a (7, c, j) 0 = 0 then -1 else k_tell a c j x
def q_who (x : Int32) (i : Nat) : Int32 := (x.toUInt32 >>> ((2 * nI i).toUInt32 &&& Int32.toUInt32 31)).toInt32 &&& 3
def q_core (n : Nat) (x : Int32) (i : Nat) : Nat := q_ix (q_who x i) % n
theorem q_who_eq (x : Int32) (i : Nat) : q_who x i = nI (q_ix (q_who x i)) := (q_and _ 2 (by decide) (by decide)).1
theorem q_who_lt (x : Int32) (i : Nat) : q_ix (q_who x i) < 4 := (q_and _ 2 (by decide) (by decide)).2
theorem q_core_eq {n : Nat} (h0 : 0 < n) (hn : n < 2 ^ 31) (x : Int32) (i : Nat) : q_who x i - q_who x i / nI n * nI n = nI (q_core n x i) := by
  have h := q_who_lt x i
  have e : q_who x i - q_who x i / nI n * nI n = nI (q_ix (q_who x i)) - nI (q_ix (q_who x i)) / nI n * nI n := by rw [← q_who_eq]
  rw [e, pk_rem (by omega) h0 hn]
  rfl
theorem q_core_lt {n : Nat} (h0 : 0 < n) (x : Int32) (i : Nat) : q_core n x i < n := Nat.mod_lt _ h0
def k_run (n S W : Nat) (x : Int32) : Nat → Nat → Int32 → ks_M → Int32 × ks_M
  | 0, _, v, a => (v, a)
  | k + 1, i, v, a => k_run n S W x k (i + 1) (if (k_step n S W a (q_core n x i)).1 = 3 then v + 1 else v) (k_step n S W a (q_core n x i)).2
def k_I (n : Nat) (a : ks_M) : Prop := ∀ c, c < n → q_pc (a (4, c, 0) 6) ∧ q_pc (a (4, c, 0) 7)
end
section
set_option maxRecDepth 100000 in
set_option maxHeartbeats 4000000 in
theorem c_Way_tell (l : Launch) (P : ks_P) (hP : ks_ok P) (c j : Nat) (hc : c < ks_n P) (hj : j < ks_T P) (x : Int32) (a b : ks_M) (o : ks_O) : kc l P y_Way_tell b_Way_tell 2 (some .int) 0 [.ref (tk_ad (ks_G P) (7, c, j)), .int x] a b o (some (.int (k_tell a c j x))) a b o := by
  have hn64 := ks_n64 hP
  have hT64 := ks_T64 hP
  refine tk_of hP.2.2.2.2.2 (by decide) rfl (Nat.le_of_ble_eq_true rfl) ?_
  intro p e s m below meth c0 X hlk hr hnm
  refine tk_iload_n X d_Way_tell_0 rfl rfl ?_
  by_cases h1 : x = 1
  · skip
    refine tk_tableAt (K := 1) (tgt := 28) X h1 d_Way_tell_1 (by decide) (by decide) rfl (by decide) ?_
    refine tk_aload_n X d_Way_tell_28 rfl rfl ?_
    refine tk_get X (k := (7, c, j)) (dm := ks_dm P) (ks_d7 hc hj) rfl hc_Way hi_Way 1 (by decide) m_Way_16 (v := .int _) rfl d_Way_tell_29 ?_
    have e1 : k_tell a c j x = _ := (if_pos h1)
    exact tk_iret X hlk hr d_Way_tell_32 (by rw [e1]) (fun _ h => h) (Or.inr rfl) (fun _ _ => rfl)
  by_cases h2 : x = 2
  · skip
    refine tk_tableAt (K := 2) (tgt := 33) X h2 d_Way_tell_1 (by decide) (by decide) rfl (by decide) ?_
    refine tk_aload_n X d_Way_tell_33 rfl rfl ?_
    refine tk_get X (k := (7, c, j)) (dm := ks_dm P) (ks_d7 hc hj) rfl hc_Way hi_Way 2 (by decide) m_Way_19 (v := .int _) rfl d_Way_tell_34 ?_
    have e1 : k_tell a c j x = _ := ((if_neg (fun z => absurd (h2.symm.trans z) (by decide))).trans (if_pos h2))
    exact tk_iret X hlk hr d_Way_tell_37 (by rw [e1]) (fun _ h => h) (Or.inr rfl) (fun _ _ => rfl)
  by_cases h3 : x = 3
  · skip
    refine tk_tableAt (K := 3) (tgt := 38) X h3 d_Way_tell_1 (by decide) (by decide) rfl (by decide) ?_
    refine tk_aload_n X d_Way_tell_38 rfl rfl ?_
    refine tk_get X (k := (7, c, j)) (dm := ks_dm P) (ks_d7 hc hj) rfl hc_Way hi_Way 3 (by decide) m_Way_7 (v := .int _) rfl d_Way_tell_39 ?_
    have e1 : k_tell a c j x = _ := (((if_neg (fun z => absurd (h3.symm.trans z) (by decide))).trans (if_neg (fun z => absurd (h3.symm.trans z) (by decide)))).trans (if_pos h3))
    exact tk_iret X hlk hr d_Way_tell_42 (by rw [e1]) (fun _ h => h) (Or.inr rfl) (fun _ _ => rfl)
  refine tk_tableOut (tgt := 43) X d_Way_tell_1 (by have := lv_neT (a := 1) h1 (by decide); have := lv_neT (a := 2) h2 (by decide); have := lv_neT (a := 3) h3 (by decide); omega) (by decide) ?_
  refine tk_aload_n X d_Way_tell_43 rfl rfl ?_
  refine tk_get X (k := (7, c, j)) (dm := ks_dm P) (ks_d7 hc hj) rfl hc_Way hi_Way 4 (by decide) m_Way_13 (v := .int _) rfl d_Way_tell_44 ?_
  have e1 : k_tell a c j x = _ := (((if_neg h1).trans (if_neg h2)).trans (if_neg h3))
  exact tk_iret X hlk hr d_Way_tell_47 (by rw [e1]) (fun _ h => h) (Or.inr rfl) (fun _ _ => rfl)

set_option maxRecDepth 100000 in
set_option maxHeartbeats 4000000 in
theorem c_TC_checkThere (l : Launch) (P : ks_P) (hP : ks_ok P) (i N : Nat) (hi : i < N) (hN : N < 2 ^ 31) (a b : ks_M) (o : ks_O) : kc l P y_TC_checkThere b_TC_checkThere 2 none 0 [.int (nI i), .int (nI N)] a b o (none) a b o := by
  have hn64 := ks_n64 hP
  have hT64 := ks_T64 hP
  refine tk_of hP.2.2.2.2.2 (by decide) rfl (Nat.le_of_ble_eq_true rfl) ?_
  intro p e s m below meth c0 X hlk hr hnm
  refine tk_iload_n X d_TC_checkThere_0 rfl rfl ?_
  refine tk_if_lt (tgt := 9) X d_TC_checkThere_1 (by decide) (fun h => absurd h (nI_pos (by omega))) (fun _ => ?_)
  refine tk_iload_n X d_TC_checkThere_4 rfl rfl ?_
  refine tk_iload_n X d_TC_checkThere_5 rfl rfl ?_
  refine tk_icmp_lt (tgt := 19) X d_TC_checkThere_6 (by decide) (fun _ => ?_) (fun h => absurd (nI_lt hi hN) h)
  exact tk_vret X hlk hr d_TC_checkThere_19 rfl (fun _ h => h) (Or.inr rfl) (fun _ _ => rfl)

set_option maxRecDepth 100000 in
set_option maxHeartbeats 4000000 in
theorem c_TC_code (l : Launch) (P : ks_P) (hP : ks_ok P) (c : Nat) (hc : c < ks_n P) (i : Nat) (hi : i < 16) (v : Int32) (a b : ks_M) (o : ks_O) : kc l P y_TC_code b_TC_code 4 none 7 [.ref (tk_ad (ks_G P) (0, 0, 0)), .int (nI c), .int (nI i), .int v] a b o (none) (ks_up a (8, c, 0) i v) b o := by
  have hn64 := ks_n64 hP
  have hT64 := ks_T64 hP
  refine tk_of hP.2.2.2.2.2 (by decide) rfl (Nat.le_of_ble_eq_true rfl) ?_
  intro p e s m below meth c0 X hlk hr hnm
  refine tk_iload_n X d_TC_code_0 rfl rfl ?_
  refine tk_aload_n X d_TC_code_1 rfl rfl ?_
  refine tk_get X (k := (0, 0, 0)) (dm := ks_dm P) (ks_d0 (by decide)) rfl hc_TC hi_TC 1 (by decide) m_TC_22 (v := .ref (tk_ad (ks_G P) (3, 0, 0))) rfl d_TC_code_2 ?_
  refine tk_alen X (k := (3, 0, 0)) (dm := ks_dm P) (ks_d0 (by decide)) rfl rfl (v := nI _) rfl d_TC_code_5 ?_
  refine tk_callS X (c_TC_checkThere l P hP c (ks_n P) hc (by omega) a b o) (ks_site (n := 2) mc_TC_checkThere mi_TC (by decide +kernel) (by decide) (by decide)) m_TC_37 ms_TC_checkThere rfl (Nat.le_of_ble_eq_true rfl) ⟨Nat.le_of_ble_eq_true rfl, Nat.le_of_ble_eq_true rfl⟩ rfl d_TC_code_6 ?_
  refine tk_iload_n X d_TC_code_9 rfl rfl ?_
  refine tk_bipush (v := 16) X d_TC_code_10 (by decide) ?_
  refine tk_callS X (c_TC_checkThere l P hP i 16 hi (by decide) a b o) (ks_site (n := 2) mc_TC_checkThere mi_TC (by decide +kernel) (by decide) (by decide)) m_TC_37 ms_TC_checkThere rfl (Nat.le_of_ble_eq_true rfl) ⟨Nat.le_of_ble_eq_true rfl, Nat.le_of_ble_eq_true rfl⟩ rfl d_TC_code_12 ?_
  refine tk_aload_n X d_TC_code_15 rfl rfl ?_
  refine tk_get X (k := (0, 0, 0)) (dm := ks_dm P) (ks_d0 (by decide)) rfl hc_TC hi_TC 1 (by decide) m_TC_22 (v := .ref (tk_ad (ks_G P) (3, 0, 0))) rfl d_TC_code_16 ?_
  refine tk_iload_n X d_TC_code_19 rfl rfl ?_
  refine kw_core X (i := c) rfl hc hn64 d_TC_code_20 ?_
  refine tk_getN X (k := (4, c, 0)) (dm := ks_dm P) (ks_d4 hc) rfl hc_Core hi_Core 2 (by decide) n_TC_40 (v := .ref (tk_ad (ks_G P) (8, c, 0))) rfl d_TC_code_21 ?_
  refine tk_iload_n X d_TC_code_24 rfl rfl ?_
  refine tk_iload_n X d_TC_code_25 rfl rfl ?_
  refine kw_iast X (k := (8, c, 0)) (ks_d8 hc) rfl (by decide) rfl hi rfl d_TC_code_26 ?_
  exact tk_vret X hlk hr d_TC_code_27 rfl (fun _ h => h) (Or.inr rfl) (fun _ _ => rfl)

set_option maxRecDepth 100000 in
set_option maxHeartbeats 4000000 in
theorem c_TC_step (l : Launch) (P : ks_P) (hP : ks_ok P) (c : Nat) (hc : c < ks_n P) (a b : ks_M) (o : ks_O) (hp : q_pc (a (4, c, 0) 6)) : kc l P y_TC_step b_TC_step 2 (some .int) 7 [.ref (tk_ad (ks_G P) (0, 0, 0)), .int (nI c)] a b o (some (.int (k_step (ks_n P) (ks_S P) (ks_W P) a c).1)) (k_step (ks_n P) (ks_S P) (ks_W P) a c).2 b o := by
  have hn64 := ks_n64 hP
  have hT64 := ks_T64 hP
  refine tk_of hP.2.2.2.2.2 (by decide) rfl (Nat.le_of_ble_eq_true rfl) ?_
  intro p e s m below meth c0 X hlk hr hnm
  refine tk_iload_n X d_TC_step_0 rfl rfl ?_
  refine tk_aload_n X d_TC_step_1 rfl rfl ?_
  refine tk_get X (k := (0, 0, 0)) (dm := ks_dm P) (ks_d0 (by decide)) rfl hc_TC hi_TC 1 (by decide) m_TC_22 (v := .ref (tk_ad (ks_G P) (3, 0, 0))) rfl d_TC_step_2 ?_
  refine tk_alen X (k := (3, 0, 0)) (dm := ks_dm P) (ks_d0 (by decide)) rfl rfl (v := nI _) rfl d_TC_step_5 ?_
  refine tk_callS X (c_TC_checkThere l P hP c (ks_n P) hc (by omega) a b o) (ks_site (n := 2) mc_TC_checkThere mi_TC (by decide +kernel) (by decide) (by decide)) m_TC_37 ms_TC_checkThere rfl (Nat.le_of_ble_eq_true rfl) ⟨Nat.le_of_ble_eq_true rfl, Nat.le_of_ble_eq_true rfl⟩ rfl d_TC_step_6 ?_
  refine tk_aload_n X d_TC_step_9 rfl rfl ?_
  refine tk_aload_n X d_TC_step_10 rfl rfl ?_
  refine tk_get X (k := (0, 0, 0)) (dm := ks_dm P) (ks_d0 (by decide)) rfl hc_TC hi_TC 1 (by decide) m_TC_22 (v := .ref (tk_ad (ks_G P) (3, 0, 0))) rfl d_TC_step_11 ?_
  refine tk_iload_n X d_TC_step_14 rfl rfl ?_
  refine kw_core X (i := c) rfl hc hn64 d_TC_step_15 ?_
  refine tk_callV X (kb := (0, 0, 0)) (ks_d0 (by decide)) rfl hc_TC (c_TC_takeStep l P hP c hc a b o hp) (ks_site (n := 1) mc_TC_takeStep mi_TC (by decide +kernel) (by decide) (by decide)) m_TC_75 ms_TC_takeStep mv_TC_takeStep rfl (Nat.le_of_ble_eq_true rfl) ⟨Nat.le_of_ble_eq_true rfl, Nat.le_of_ble_eq_true rfl⟩ rfl d_TC_step_16 ?_
  exact tk_iret X hlk hr d_TC_step_19 (rfl) (fun _ h => h) (Or.inr rfl) (fun _ _ => rfl)

set_option maxRecDepth 100000 in
set_option maxHeartbeats 4000000 in
theorem c_TC_jump (l : Launch) (P : ks_P) (hP : ks_ok P) (c : Nat) (hc : c < ks_n P) (x : Int32) (a b : ks_M) (o : ks_O) (hd : a (4, c, 0) 8 ≤ 0) : kc l P y_TC_jump b_TC_jump 3 none 7 [.ref (tk_ad (ks_G P) (0, 0, 0)), .int (nI c), .int x] a b o (none) (k_jumpto a c x) b o := by
  have hn64 := ks_n64 hP
  have hT64 := ks_T64 hP
  refine tk_of hP.2.2.2.2.2 (by decide) rfl (Nat.le_of_ble_eq_true rfl) ?_
  intro p e s m below meth c0 X hlk hr hnm
  refine tk_iload_n X d_TC_jump_0 rfl rfl ?_
  refine tk_aload_n X d_TC_jump_1 rfl rfl ?_
  refine tk_get X (k := (0, 0, 0)) (dm := ks_dm P) (ks_d0 (by decide)) rfl hc_TC hi_TC 1 (by decide) m_TC_22 (v := .ref (tk_ad (ks_G P) (3, 0, 0))) rfl d_TC_jump_2 ?_
  refine tk_alen X (k := (3, 0, 0)) (dm := ks_dm P) (ks_d0 (by decide)) rfl rfl (v := nI _) rfl d_TC_jump_5 ?_
  refine tk_callS X (c_TC_checkThere l P hP c (ks_n P) hc (by omega) a b o) (ks_site (n := 2) mc_TC_checkThere mi_TC (by decide +kernel) (by decide) (by decide)) m_TC_37 ms_TC_checkThere rfl (Nat.le_of_ble_eq_true rfl) ⟨Nat.le_of_ble_eq_true rfl, Nat.le_of_ble_eq_true rfl⟩ rfl d_TC_jump_6 ?_
  refine tk_aload_n X d_TC_jump_9 rfl rfl ?_
  refine tk_get X (k := (0, 0, 0)) (dm := ks_dm P) (ks_d0 (by decide)) rfl hc_TC hi_TC 1 (by decide) m_TC_22 (v := .ref (tk_ad (ks_G P) (3, 0, 0))) rfl d_TC_jump_10 ?_
  refine tk_iload_n X d_TC_jump_13 rfl rfl ?_
  refine kw_core X (i := c) rfl hc hn64 d_TC_jump_14 ?_
  refine tk_getN X (k := (4, c, 0)) (dm := ks_dm P) (ks_d4 hc) rfl hc_Core hi_Core 8 (by decide) n_TC_86 (v := .int _) rfl d_TC_jump_15 ?_
  refine tk_if_le (tgt := 31) X d_TC_jump_18 (by decide) (fun _ => ?_) (fun h => absurd hd h)
  refine tk_aload_n X d_TC_jump_31 rfl rfl ?_
  refine tk_get X (k := (0, 0, 0)) (dm := ks_dm P) (ks_d0 (by decide)) rfl hc_TC hi_TC 1 (by decide) m_TC_22 (v := .ref (tk_ad (ks_G P) (3, 0, 0))) rfl d_TC_jump_32 ?_
  refine tk_iload_n X d_TC_jump_35 rfl rfl ?_
  refine kw_core X (i := c) rfl hc hn64 d_TC_jump_36 ?_
  refine tk_iload_n X d_TC_jump_37 rfl rfl ?_
  refine tk_callS X (c_TC_place l P hP x a b o) (ks_site (n := 1) mc_TC_place mi_TC (by decide +kernel) (by decide) (by decide)) m_TC_94 ms_TC_place rfl (Nat.le_of_ble_eq_true rfl) ⟨Nat.le_of_ble_eq_true rfl, Nat.le_of_ble_eq_true rfl⟩ rfl d_TC_jump_38 ?_
  refine kw_putN X (k := (4, c, 0)) (ks_d4 hc) rfl hc_Core hi_Core t_Core t_Core_ok n_Core 6 (by decide) rfl n_TC_97 rfl rfl rfl d_TC_jump_41 ?_
  refine tk_aload_n X d_TC_jump_44 rfl rfl ?_
  refine tk_get X (k := (0, 0, 0)) (dm := ks_dm P) (ks_d0 (by decide)) rfl hc_TC hi_TC 1 (by decide) m_TC_22 (v := .ref (tk_ad (ks_G P) (3, 0, 0))) rfl d_TC_jump_45 ?_
  refine tk_iload_n X d_TC_jump_48 rfl rfl ?_
  refine kw_core X (i := c) rfl hc hn64 d_TC_jump_49 ?_
  refine tk_iconst (v := 0) X d_TC_jump_50 (by decide) ?_
  refine kw_putN X (k := (4, c, 0)) (ks_d4 hc) rfl hc_Core hi_Core t_Core t_Core_ok n_Core 9 (by decide) rfl n_TC_100 rfl (by decide) (by decide) d_TC_jump_51 ?_
  exact tk_vret X hlk hr d_TC_jump_54 rfl (fun _ h => h) (Or.inr rfl) (fun _ _ => rfl)

set_option maxRecDepth 100000 in
set_option maxHeartbeats 4000000 in
theorem c_TC_fate (l : Launch) (P : ks_P) (hP : ks_ok P) (c : Nat) (hc : c < ks_n P) (i : Nat) (hi : i < 6) (a b : ks_M) (o : ks_O) : kc l P y_TC_fate b_TC_fate 3 (some .int) 7 [.ref (tk_ad (ks_G P) (0, 0, 0)), .int (nI c), .int (nI i)] a b o (some (.int (a (11, c, 0) i))) a b o := by
  have hn64 := ks_n64 hP
  have hT64 := ks_T64 hP
  refine tk_of hP.2.2.2.2.2 (by decide) rfl (Nat.le_of_ble_eq_true rfl) ?_
  intro p e s m below meth c0 X hlk hr hnm
  refine tk_iload_n X d_TC_fate_0 rfl rfl ?_
  refine tk_aload_n X d_TC_fate_1 rfl rfl ?_
  refine tk_get X (k := (0, 0, 0)) (dm := ks_dm P) (ks_d0 (by decide)) rfl hc_TC hi_TC 1 (by decide) m_TC_22 (v := .ref (tk_ad (ks_G P) (3, 0, 0))) rfl d_TC_fate_2 ?_
  refine tk_alen X (k := (3, 0, 0)) (dm := ks_dm P) (ks_d0 (by decide)) rfl rfl (v := nI _) rfl d_TC_fate_5 ?_
  refine tk_callS X (c_TC_checkThere l P hP c (ks_n P) hc (by omega) a b o) (ks_site (n := 2) mc_TC_checkThere mi_TC (by decide +kernel) (by decide) (by decide)) m_TC_37 ms_TC_checkThere rfl (Nat.le_of_ble_eq_true rfl) ⟨Nat.le_of_ble_eq_true rfl, Nat.le_of_ble_eq_true rfl⟩ rfl d_TC_fate_6 ?_
  refine tk_iload_n X d_TC_fate_9 rfl rfl ?_
  refine tk_bipush (v := 6) X d_TC_fate_10 (by decide) ?_
  refine tk_callS X (c_TC_checkThere l P hP i 6 hi (by decide) a b o) (ks_site (n := 2) mc_TC_checkThere mi_TC (by decide +kernel) (by decide) (by decide)) m_TC_37 ms_TC_checkThere rfl (Nat.le_of_ble_eq_true rfl) ⟨Nat.le_of_ble_eq_true rfl, Nat.le_of_ble_eq_true rfl⟩ rfl d_TC_fate_12 ?_
  refine tk_aload_n X d_TC_fate_15 rfl rfl ?_
  refine tk_get X (k := (0, 0, 0)) (dm := ks_dm P) (ks_d0 (by decide)) rfl hc_TC hi_TC 1 (by decide) m_TC_22 (v := .ref (tk_ad (ks_G P) (3, 0, 0))) rfl d_TC_fate_16 ?_
  refine tk_iload_n X d_TC_fate_19 rfl rfl ?_
  refine kw_core X (i := c) rfl hc hn64 d_TC_fate_20 ?_
  refine tk_getN X (k := (4, c, 0)) (dm := ks_dm P) (ks_d4 hc) rfl hc_Core hi_Core 5 (by decide) n_TC_107 (v := .ref (tk_ad (ks_G P) (11, c, 0))) rfl d_TC_fate_21 ?_
  refine tk_iload_n X d_TC_fate_24 rfl rfl ?_
  refine kw_iald X (k := (11, c, 0)) (ks_d11 hc) rfl (by decide) rfl hi (v := _) rfl d_TC_fate_25 ?_
  exact tk_iret X hlk hr d_TC_fate_26 (rfl) (fun _ h => h) (Or.inr rfl) (fun _ _ => rfl)

set_option maxRecDepth 100000 in
set_option maxHeartbeats 4000000 in
theorem c_TC_register (l : Launch) (P : ks_P) (hP : ks_ok P) (c : Nat) (hc : c < ks_n P) (r : Nat) (hr0 : r < 11) (a b : ks_M) (o : ks_O) : kc l P y_TC_register b_TC_register 4 (some .int) 7 [.ref (tk_ad (ks_G P) (0, 0, 0)), .int (nI c), .int (nI r)] a b o (some (.int (k_regq a c r))) a b o := by
  have hn64 := ks_n64 hP
  have hT64 := ks_T64 hP
  refine tk_of hP.2.2.2.2.2 (by decide) rfl (Nat.le_of_ble_eq_true rfl) ?_
  intro p e s m below meth c0 X hlk hr hnm
  refine tk_iload_n X d_TC_register_0 rfl rfl ?_
  refine tk_aload_n X d_TC_register_1 rfl rfl ?_
  refine tk_get X (k := (0, 0, 0)) (dm := ks_dm P) (ks_d0 (by decide)) rfl hc_TC hi_TC 1 (by decide) m_TC_22 (v := .ref (tk_ad (ks_G P) (3, 0, 0))) rfl d_TC_register_2 ?_
  refine tk_alen X (k := (3, 0, 0)) (dm := ks_dm P) (ks_d0 (by decide)) rfl rfl (v := nI _) rfl d_TC_register_5 ?_
  refine tk_callS X (c_TC_checkThere l P hP c (ks_n P) hc (by omega) a b o) (ks_site (n := 2) mc_TC_checkThere mi_TC (by decide +kernel) (by decide) (by decide)) m_TC_37 ms_TC_checkThere rfl (Nat.le_of_ble_eq_true rfl) ⟨Nat.le_of_ble_eq_true rfl, Nat.le_of_ble_eq_true rfl⟩ rfl d_TC_register_6 ?_
  refine tk_iload_n X d_TC_register_9 rfl rfl ?_
  refine tk_bipush (v := 11) X d_TC_register_10 (by decide) ?_
  refine tk_callS X (c_TC_checkThere l P hP r 11 hr0 (by decide) a b o) (ks_site (n := 2) mc_TC_checkThere mi_TC (by decide +kernel) (by decide) (by decide)) m_TC_37 ms_TC_checkThere rfl (Nat.le_of_ble_eq_true rfl) ⟨Nat.le_of_ble_eq_true rfl, Nat.le_of_ble_eq_true rfl⟩ rfl d_TC_register_12 ?_
  refine tk_aload_n X d_TC_register_15 rfl rfl ?_
  refine tk_get X (k := (0, 0, 0)) (dm := ks_dm P) (ks_d0 (by decide)) rfl hc_TC hi_TC 1 (by decide) m_TC_22 (v := .ref (tk_ad (ks_G P) (3, 0, 0))) rfl d_TC_register_16 ?_
  refine tk_iload_n X d_TC_register_19 rfl rfl ?_
  refine kw_core X (i := c) rfl hc hn64 d_TC_register_20 ?_
  refine tk_astore_n X d_TC_register_21 rfl (by decide) rfl ?_
  refine tk_iload_n X d_TC_register_22 rfl rfl ?_
  by_cases h1 : nI r = 8
  · skip
    refine tk_tableAt (K := 8) (tgt := 48) X h1 d_TC_register_23 (by decide) (by decide) rfl (by decide) ?_
    refine tk_aload_n X d_TC_register_48 rfl rfl ?_
    refine tk_getN X (k := (4, c, 0)) (dm := ks_dm P) (ks_d4 hc) rfl hc_Core hi_Core 6 (by decide) n_TC_97 (v := .int _) rfl d_TC_register_49 ?_
    have e1 : k_regq a c r = _ := (if_pos h1)
    exact tk_iret X hlk hr d_TC_register_52 (by rw [e1]) (fun _ h => h) (Or.inr rfl) (fun _ _ => rfl)
  by_cases h2 : nI r = 9
  · skip
    refine tk_tableAt (K := 9) (tgt := 53) X h2 d_TC_register_23 (by decide) (by decide) rfl (by decide) ?_
    refine tk_aload_n X d_TC_register_53 rfl rfl ?_
    refine tk_getN X (k := (4, c, 0)) (dm := ks_dm P) (ks_d4 hc) rfl hc_Core hi_Core 8 (by decide) n_TC_86 (v := .int _) rfl d_TC_register_54 ?_
    have e1 : k_regq a c r = _ := ((if_neg (fun z => absurd (h2.symm.trans z) (by decide))).trans (if_pos h2))
    exact tk_iret X hlk hr d_TC_register_57 (by rw [e1]) (fun _ h => h) (Or.inr rfl) (fun _ _ => rfl)
  by_cases h3 : nI r = 10
  · skip
    refine tk_tableAt (K := 10) (tgt := 58) X h3 d_TC_register_23 (by decide) (by decide) rfl (by decide) ?_
    refine tk_aload_n X d_TC_register_58 rfl rfl ?_
    refine tk_getN X (k := (4, c, 0)) (dm := ks_dm P) (ks_d4 hc) rfl hc_Core hi_Core 9 (by decide) n_TC_100 (v := .int _) rfl d_TC_register_59 ?_
    refine tk_if_eq (tgt := 69) X d_TC_register_62 (by decide) (fun h4 => ?_) (fun h4 => ?_)
    · skip
      refine tk_iconst (v := 0) X d_TC_register_69 (by decide) ?_
      have e1 : k_regq a c r = _ := ((((if_neg (fun z => absurd (h3.symm.trans z) (by decide))).trans (if_neg (fun z => absurd (h3.symm.trans z) (by decide)))).trans (if_pos h3)).trans (if_pos h4))
      exact tk_iret X hlk hr d_TC_register_70 (by rw [e1]) (fun _ h => h) (Or.inr rfl) (fun _ _ => rfl)
    · skip
      refine tk_iconst (v := 1) X d_TC_register_65 (by decide) ?_
      refine tk_goto (tgt := 70) X d_TC_register_66 (by decide) ?_
      have e1 : k_regq a c r = _ := ((((if_neg (fun z => absurd (h3.symm.trans z) (by decide))).trans (if_neg (fun z => absurd (h3.symm.trans z) (by decide)))).trans (if_pos h3)).trans (if_neg h4))
      exact tk_iret X hlk hr d_TC_register_70 (by rw [e1]) (fun _ h => h) (Or.inr rfl) (fun _ _ => rfl)
  refine tk_tableOut (tgt := 71) X d_TC_register_23 (by have := lv_neT (a := 8) h1 (by decide); have := lv_neT (a := 9) h2 (by decide); have := lv_neT (a := 10) h3 (by decide); omega) (by decide) ?_
  refine tk_aload_n X d_TC_register_71 rfl rfl ?_
  refine tk_getN X (k := (4, c, 0)) (dm := ks_dm P) (ks_d4 hc) rfl hc_Core hi_Core 3 (by decide) n_TC_104 (v := .ref (tk_ad (ks_G P) (9, c, 0))) rfl d_TC_register_72 ?_
  refine tk_iload_n X d_TC_register_75 rfl rfl ?_
  refine kw_iald X (k := (9, c, 0)) (ks_d9 hc) rfl (by decide) rfl (by have q8 : r ≠ 8 := fun e => h1 (by rw [e]; rfl); have q9 : r ≠ 9 := fun e => h2 (by rw [e]; rfl); have q10 : r ≠ 10 := fun e => h3 (by rw [e]; rfl); omega) (v := _) rfl d_TC_register_76 ?_
  have e1 : k_regq a c r = _ := (((if_neg h1).trans (if_neg h2)).trans (if_neg h3))
  exact tk_iret X hlk hr d_TC_register_77 (by rw [e1]) (fun _ h => h) (Or.inr rfl) (fun _ _ => rfl)

set_option maxRecDepth 100000 in
set_option maxHeartbeats 4000000 in
theorem c_TC_way (l : Launch) (P : ks_P) (hP : ks_ok P) (c : Nat) (hc : c < ks_n P) (t u v : Nat) (ht : t < ks_S P) (hu : u < ks_W P) (hv : v < 5) (hj : t * ks_W P + u < ks_T P) (a b : ks_M) (o : ks_O) : kc l P y_TC_way b_TC_way 7 (some .int) 7 [.ref (tk_ad (ks_G P) (0, 0, 0)), .int (nI c), .int (nI t), .int (nI u), .int (nI v)] a b o (some (.int (k_wayq a c (t * ks_W P + u) (nI v)))) a b o := by
  have hn64 := ks_n64 hP
  have hT64 := ks_T64 hP
  refine tk_of hP.2.2.2.2.2 (by decide) rfl (Nat.le_of_ble_eq_true rfl) ?_
  intro p e s m below meth c0 X hlk hr hnm
  refine tk_iload_n X d_TC_way_0 rfl rfl ?_
  refine tk_aload_n X d_TC_way_1 rfl rfl ?_
  refine tk_get X (k := (0, 0, 0)) (dm := ks_dm P) (ks_d0 (by decide)) rfl hc_TC hi_TC 1 (by decide) m_TC_22 (v := .ref (tk_ad (ks_G P) (3, 0, 0))) rfl d_TC_way_2 ?_
  refine tk_alen X (k := (3, 0, 0)) (dm := ks_dm P) (ks_d0 (by decide)) rfl rfl (v := nI _) rfl d_TC_way_5 ?_
  refine tk_callS X (c_TC_checkThere l P hP c (ks_n P) hc (by omega) a b o) (ks_site (n := 2) mc_TC_checkThere mi_TC (by decide +kernel) (by decide) (by decide)) m_TC_37 ms_TC_checkThere rfl (Nat.le_of_ble_eq_true rfl) ⟨Nat.le_of_ble_eq_true rfl, Nat.le_of_ble_eq_true rfl⟩ rfl d_TC_way_6 ?_
  refine tk_aload_n X d_TC_way_9 rfl rfl ?_
  refine tk_get X (k := (0, 0, 0)) (dm := ks_dm P) (ks_d0 (by decide)) rfl hc_TC hi_TC 1 (by decide) m_TC_22 (v := .ref (tk_ad (ks_G P) (3, 0, 0))) rfl d_TC_way_10 ?_
  refine tk_iload_n X d_TC_way_13 rfl rfl ?_
  refine kw_core X (i := c) rfl hc hn64 d_TC_way_14 ?_
  refine tk_getN X (k := (4, c, 0)) (dm := ks_dm P) (ks_d4 hc) rfl hc_Core hi_Core 1 (by decide) n_TC_54 (v := .ref (tk_ad (ks_G P) (5, c, 0))) rfl d_TC_way_15 ?_
  refine tk_astore X d_TC_way_18 (by decide) rfl ?_
  refine tk_iload_n X d_TC_way_20 rfl rfl ?_
  refine tk_aload X d_TC_way_21 rfl ?_
  refine tk_getN X (k := (5, c, 0)) (dm := ks_dm P) (ks_d5 hc) rfl hc_Cache hi_Cache 0 (by decide) n_TC_110 (v := .int _) rfl d_TC_way_23 ?_
  refine tk_callS X (c_TC_checkThere l P hP t (ks_S P) ht (by rcases hP.2.2.1 with h | h | h <;> omega) a b o) (ks_site (n := 2) mc_TC_checkThere mi_TC (by decide +kernel) (by decide) (by decide)) m_TC_37 ms_TC_checkThere rfl (Nat.le_of_ble_eq_true rfl) ⟨Nat.le_of_ble_eq_true rfl, Nat.le_of_ble_eq_true rfl⟩ rfl d_TC_way_26 ?_
  refine tk_iload_n X d_TC_way_29 rfl rfl ?_
  refine tk_aload X d_TC_way_30 rfl ?_
  refine tk_getN X (k := (5, c, 0)) (dm := ks_dm P) (ks_d5 hc) rfl hc_Cache hi_Cache 1 (by decide) n_TC_113 (v := .int _) rfl d_TC_way_32 ?_
  refine tk_callS X (c_TC_checkThere l P hP u (ks_W P) hu (by have := hP.2.2.2.2.1; omega) a b o) (ks_site (n := 2) mc_TC_checkThere mi_TC (by decide +kernel) (by decide) (by decide)) m_TC_37 ms_TC_checkThere rfl (Nat.le_of_ble_eq_true rfl) ⟨Nat.le_of_ble_eq_true rfl, Nat.le_of_ble_eq_true rfl⟩ rfl d_TC_way_35 ?_
  refine tk_iload X d_TC_way_38 rfl ?_
  refine tk_iconst (v := 5) X d_TC_way_40 (by decide) ?_
  refine tk_callS X (c_TC_checkThere l P hP v 5 hv (by decide) a b o) (ks_site (n := 2) mc_TC_checkThere mi_TC (by decide +kernel) (by decide) (by decide)) m_TC_37 ms_TC_checkThere rfl (Nat.le_of_ble_eq_true rfl) ⟨Nat.le_of_ble_eq_true rfl, Nat.le_of_ble_eq_true rfl⟩ rfl d_TC_way_41 ?_
  refine tk_aload X d_TC_way_44 rfl ?_
  refine tk_getN X (k := (5, c, 0)) (dm := ks_dm P) (ks_d5 hc) rfl hc_Cache hi_Cache 2 (by decide) n_TC_116 (v := .ref (tk_ad (ks_G P) (6, c, 0))) rfl d_TC_way_46 ?_
  refine tk_iload_n X d_TC_way_49 rfl rfl ?_
  refine tk_aload X d_TC_way_50 rfl ?_
  refine tk_getN X (k := (5, c, 0)) (dm := ks_dm P) (ks_d5 hc) rfl hc_Cache hi_Cache 1 (by decide) n_TC_113 (v := .int _) rfl d_TC_way_52 ?_
  refine tk_imul X d_TC_way_55 ?_
  refine tk_iload_n X d_TC_way_56 rfl rfl ?_
  refine tk_iadd X d_TC_way_57 ?_
  refine kw_way X hc (i := (t * ks_W P + u)) (by rw [pk_mul, nI_add]) hj hT64 d_TC_way_58 ?_
  refine tk_astore X d_TC_way_59 (by decide) rfl ?_
  refine tk_iload X d_TC_way_61 rfl ?_
  refine tk_if_ne (tgt := 72) X d_TC_way_63 (by decide) (fun h1 => ?_) (fun h1 => ?_)
  · skip
    refine tk_aload X d_TC_way_72 rfl ?_
    refine tk_getN X (k := (7, c, (t * ks_W P + u))) (dm := ks_dm P) (ks_d7 hc hj) rfl hc_Way hi_Way 0 (by decide) n_TC_62 (v := .int _) rfl d_TC_way_74 ?_
    refine tk_if_ne (tgt := 84) X d_TC_way_77 (by decide) (fun h2 => ?_) (fun h2 => ?_)
    · skip
      refine tk_aload X d_TC_way_84 rfl ?_
      refine tk_iload X d_TC_way_86 rfl ?_
      refine tk_callV X (kb := (7, c, (t * ks_W P + u))) (ks_d7 hc hj) rfl hc_Way (c_Way_tell l P hP c (t * ks_W P + u) hc hj (nI v) a b o) (ks_site (n := 1) mc_Way_tell mi_Way (by decide +kernel) (by decide) (by decide)) m_TC_120 ms_Way_tell mv_Way_tell rfl (Nat.le_of_ble_eq_true rfl) ⟨Nat.le_of_ble_eq_true rfl, Nat.le_of_ble_eq_true rfl⟩ rfl d_TC_way_88 ?_
      have e1 : k_wayq a c (t * ks_W P + u) (nI v) = _ := ((if_neg h1).trans (if_neg h2))
      exact tk_iret X hlk hr d_TC_way_91 (by rw [e1]) (fun _ h => h) (Or.inr rfl) (fun _ _ => rfl)
    · skip
      refine tk_iconst (v := -1) X d_TC_way_80 (by decide) ?_
      refine tk_goto (tgt := 91) X d_TC_way_81 (by decide) ?_
      have e1 : k_wayq a c (t * ks_W P + u) (nI v) = _ := ((if_neg h1).trans (if_pos h2))
      exact tk_iret X hlk hr d_TC_way_91 (by rw [e1]) (fun _ h => h) (Or.inr rfl) (fun _ _ => rfl)
  · skip
    refine tk_aload X d_TC_way_66 rfl ?_
    refine tk_getN X (k := (7, c, (t * ks_W P + u))) (dm := ks_dm P) (ks_d7 hc hj) rfl hc_Way hi_Way 0 (by decide) n_TC_62 (v := .int _) rfl d_TC_way_68 ?_
    have e1 : k_wayq a c (t * ks_W P + u) (nI v) = _ := (if_pos h1)
    exact tk_iret X hlk hr d_TC_way_71 (by rw [e1]) (fun _ h => h) (Or.inr rfl) (fun _ _ => rfl)

section LP
variable {p : Program} {l : Launch} {e : Env} {R : Room} {s : State} {m : MethodId} {args : Array Value} {below : List Frame} {meth : Method} {c0 : Code} {P : ks_P} {cells slots : Nat} {Q : State → Prop}
set_option maxRecDepth 100000 in
set_option maxHeartbeats 4000000 in
theorem lp_TC_peek (X : tk_X p m c0 s args (ks_G P) R_TC b_TC_peek 5 WS) (hP : ks_ok P) {y : Nat} (hy : y < 32) (x : Int32) (a b : ks_M) (o : ks_O) (k1 : ∀ (i j : Nat) (hi : i < ks_n P) (hj : j < ks_T P), k_pk (ks_S P) (ks_W P) a y x (ks_n P) 0 = k_wget a i j x → tk_go p l e (ks_rm 2) s m args below meth c0 (ks_G P) (ks_dm P) 5 0 0 Q (ks_sl P a b o) 55 [some (.ref (tk_ad (ks_G P) (0, 0, 0))), some (.int x), some (.int (nI y)), some (.int (nI i)), some (.ref (tk_ad (ks_G P) (7, i, j)))] []) (k0 : ∀ t4, k_pk (ks_S P) (ks_W P) a y x (ks_n P) 0 = k_get a x → tk_go p l e (ks_rm 2) s m args below meth c0 (ks_G P) (ks_dm P) 5 0 0 Q (ks_sl P a b o) 68 [some (.ref (tk_ad (ks_G P) (0, 0, 0))), some (.int x), some (.int (nI y)), some (.int (nI (ks_n P))), t4] []) : ∀ (k i : Nat) (t4 : Option Value), i + k = ks_n P → k_pk (ks_S P) (ks_W P) a y x (ks_n P) 0 = k_pk (ks_S P) (ks_W P) a y x k i → tk_go p l e (ks_rm 2) s m args below meth c0 (ks_G P) (ks_dm P) 5 0 0 Q (ks_sl P a b o) 7 [some (.ref (tk_ad (ks_G P) (0, 0, 0))), some (.int x), some (.int (nI y)), some (.int (nI i)), t4] [] := by
  have hn64 := ks_n64 hP
  have hT64 := ks_T64 hP
  intro k
  induction k with
  | zero =>
    intro i t4 hi hk
    have hiT : i = ks_n P := by omega
    subst hiT
    refine tk_iload_n X d_TC_peek_7 rfl rfl ?_
    refine tk_aload_n X d_TC_peek_8 rfl rfl ?_
    refine tk_get X (k := (0, 0, 0)) (dm := ks_dm P) (ks_d0 (by decide)) rfl hc_TC hi_TC 1 (by decide) m_TC_22 (v := .ref (tk_ad (ks_G P) (3, 0, 0))) rfl d_TC_peek_9 ?_
    refine tk_alen X (k := (3, 0, 0)) (dm := ks_dm P) (ks_d0 (by decide)) rfl rfl (v := nI _) rfl d_TC_peek_12 ?_
    refine tk_icmp_ge (tgt := 68) X d_TC_peek_13 (by decide) (fun _ => ?_) (fun h => absurd (nI_le (Nat.le_refl _) (by omega)) h)
    exact k0 t4 hk
  | succ k ih =>
    intro i t4 hi hk
    have hi2 : i < ks_n P := by omega
    refine tk_iload_n X d_TC_peek_7 rfl rfl ?_
    refine tk_aload_n X d_TC_peek_8 rfl rfl ?_
    refine tk_get X (k := (0, 0, 0)) (dm := ks_dm P) (ks_d0 (by decide)) rfl hc_TC hi_TC 1 (by decide) m_TC_22 (v := .ref (tk_ad (ks_G P) (3, 0, 0))) rfl d_TC_peek_9 ?_
    refine tk_alen X (k := (3, 0, 0)) (dm := ks_dm P) (ks_d0 (by decide)) rfl rfl (v := nI _) rfl d_TC_peek_12 ?_
    refine tk_icmp_ge (tgt := 68) X d_TC_peek_13 (by decide) (fun h => absurd h (nI_ge hi2 (by omega))) (fun _ => ?_)
    refine tk_aload_n X d_TC_peek_16 rfl rfl ?_
    refine tk_get X (k := (0, 0, 0)) (dm := ks_dm P) (ks_d0 (by decide)) rfl hc_TC hi_TC 1 (by decide) m_TC_22 (v := .ref (tk_ad (ks_G P) (3, 0, 0))) rfl d_TC_peek_17 ?_
    refine tk_iload_n X d_TC_peek_20 rfl rfl ?_
    refine kw_core X (i := i) rfl hi2 hn64 d_TC_peek_21 ?_
    refine tk_getN X (k := (4, i, 0)) (dm := ks_dm P) (ks_d4 hi2) rfl hc_Core hi_Core 1 (by decide) n_TC_54 (v := .ref (tk_ad (ks_G P) (5, i, 0))) rfl d_TC_peek_22 ?_
    refine tk_iload_n X d_TC_peek_25 rfl rfl ?_
    refine tk_callV X (kb := (5, i, 0)) (ks_d5 hi2) rfl hc_Cache (c_Cache_find l P hP i y hi2 hy a b o) (ks_site (n := 1) mc_Cache_find mi_Cache (by decide +kernel) (by decide) (by decide)) m_TC_58 ms_Cache_find mv_Cache_find rfl (Nat.le_of_ble_eq_true rfl) ⟨Nat.le_of_ble_eq_true rfl, Nat.le_of_ble_eq_true rfl⟩ rfl d_TC_peek_26 ?_
    cases hf : k_find a i y (ks_W P) (k_first (ks_S P) (ks_W P) y) with
    | none =>
      refine tk_astoreN X d_TC_peek_29 (by decide) rfl ?_
      refine tk_aloadN X d_TC_peek_31 rfl ?_
      refine tk_ifnullN (tgt := 62) X d_TC_peek_33 (by decide) ?_
      refine tk_iinc (v := nI (i + 1)) X d_TC_peek_62 rfl (q_inc i) (by decide) rfl ?_
      refine tk_goto (tgt := 7) X d_TC_peek_65 (by decide) ?_
      exact ih (i + 1) _ (by omega) (hk.trans (by rw [k_pk, hf]))
    | some j =>
      have hj : j < ks_T P := k_find_T hP hf
      refine tk_astore X d_TC_peek_29 (by decide) rfl ?_
      refine tk_aload X d_TC_peek_31 rfl ?_
      refine tk_ifnull X d_TC_peek_33 ?_
      refine tk_aload X d_TC_peek_36 rfl ?_
      refine tk_getN X (k := (7, i, j)) (dm := ks_dm P) (ks_d7 hi2 hj) rfl hc_Way hi_Way 0 (by decide) n_TC_62 (v := .int _) rfl d_TC_peek_38 ?_
      refine tk_iconst (v := 2) X d_TC_peek_41 (by decide) ?_
      refine tk_icmp_ne (tgt := 62) X d_TC_peek_42 (by decide) (fun h1 => ?_) (fun h1 => ?_)
      · skip
        refine tk_iinc (v := nI (i + 1)) X d_TC_peek_62 rfl (q_inc i) (by decide) rfl ?_
        refine tk_goto (tgt := 7) X d_TC_peek_65 (by decide) ?_
        exact ih (i + 1) _ (by omega) (hk.trans (by rw [k_pk, hf]; exact if_neg h1))
      · skip
        refine tk_aload X d_TC_peek_45 rfl ?_
        refine tk_getN X (k := (7, i, j)) (dm := ks_dm P) (ks_d7 hi2 hj) rfl hc_Way hi_Way 2 (by decide) n_TC_68 (v := .int _) rfl d_TC_peek_47 ?_
        refine tk_iconst (v := 2) X d_TC_peek_50 (by decide) ?_
        refine tk_iand X d_TC_peek_51 ?_
        refine tk_if_ne (tgt := 62) X d_TC_peek_52 (by decide) (fun h2 => ?_) (fun h2 => ?_)
        · skip
          refine tk_iinc (v := nI (i + 1)) X d_TC_peek_62 rfl (q_inc i) (by decide) rfl ?_
          refine tk_goto (tgt := 7) X d_TC_peek_65 (by decide) ?_
          exact ih (i + 1) _ (by omega) (hk.trans (by rw [k_pk, hf]; exact (if_pos h1).trans (if_neg h2)))
        · skip
          exact k1 i j hi2 hj (hk.trans (by rw [k_pk, hf]; exact (if_pos h1).trans (if_pos h2)))
end LP

set_option maxRecDepth 100000 in
set_option maxHeartbeats 4000000 in
theorem c_TC_peek (l : Launch) (P : ks_P) (hP : ks_ok P) (x : Int32) (a b : ks_M) (o : ks_O) : kc l P y_TC_peek b_TC_peek 5 (some .int) 2 [.ref (tk_ad (ks_G P) (0, 0, 0)), .int x] a b o (some (.int (k_pk (ks_S P) (ks_W P) a (q_ln x) x (ks_n P) 0))) a b o := by
  have hn64 := ks_n64 hP
  have hT64 := ks_T64 hP
  refine tk_of hP.2.2.2.2.2 (by decide) rfl (Nat.le_of_ble_eq_true rfl) ?_
  intro p e s m below meth c0 X hlk hr hnm
  refine tk_iload_n X d_TC_peek_0 rfl rfl ?_
  refine tk_callS X (c_TC_lineOf2 l P hP x a b o) (ks_site (n := 1) mc_TC_lineOf mi_TC (by decide +kernel) (by decide) (by decide)) m_TC_44 ms_TC_lineOf rfl (Nat.le_of_ble_eq_true rfl) ⟨Nat.le_of_ble_eq_true rfl, Nat.le_of_ble_eq_true rfl⟩ rfl d_TC_peek_1 ?_
  refine tk_istore_n X d_TC_peek_4 rfl (by decide) rfl ?_
  refine tk_iconst (v := 0) X d_TC_peek_5 (by decide) ?_
  refine tk_istore_n X d_TC_peek_6 rfl (by decide) rfl ?_
  refine lp_TC_peek X hP (q_ln_lt x) x a b o (fun i j hi hj h => ?_) (fun t4 h => ?_) (ks_n P) 0 _ (by omega) rfl
  · skip
    refine tk_aload X d_TC_peek_55 rfl ?_
    refine tk_iload_n X d_TC_peek_57 rfl rfl ?_
    refine tk_callV X (kb := (7, i, j)) (ks_d7 hi hj) rfl hc_Way (c_Way_get l P hP i j hi hj x a b o) (ks_site (n := 1) mc_Way_get mi_Way (by decide +kernel) (by decide) (by decide)) m_TC_71 ms_Way_get mv_Way_get rfl (Nat.le_of_ble_eq_true rfl) ⟨Nat.le_of_ble_eq_true rfl, Nat.le_of_ble_eq_true rfl⟩ rfl d_TC_peek_58 ?_
    exact tk_iret X hlk hr d_TC_peek_61 (by rw [h]) (fun _ h => h) (Or.inr rfl) (fun _ _ => rfl)
  · skip
    refine tk_aload_n X d_TC_peek_68 rfl rfl ?_
    refine tk_get X (k := (0, 0, 0)) (dm := ks_dm P) (ks_d0 (by decide)) rfl hc_TC hi_TC 0 (by decide) m_TC_16 (v := .ref (tk_ad (ks_G P) (1, 0, 0))) rfl d_TC_peek_69 ?_
    refine tk_iload_n X d_TC_peek_72 rfl rfl ?_
    refine tk_callV X (kb := (1, 0, 0)) (ks_d0 (by decide)) rfl hc_Store (c_Store_get l P hP x a b o) (ks_site (n := 1) mc_Store_get mi_Store (by decide +kernel) (by decide) (by decide)) m_TC_74 ms_Store_get mv_Store_get rfl (Nat.le_of_ble_eq_true rfl) ⟨Nat.le_of_ble_eq_true rfl, Nat.le_of_ble_eq_true rfl⟩ rfl d_TC_peek_73 ?_
    exact tk_iret X hlk hr d_TC_peek_76 (by rw [h]) (fun _ h => h) (Or.inr rfl) (fun _ _ => rfl)

section LP
variable {p : Program} {l : Launch} {e : Env} {R : Room} {s : State} {m : MethodId} {args : Array Value} {below : List Frame} {meth : Method} {c0 : Code} {P : ks_P} {cells slots : Nat} {Q : State → Prop}
set_option maxRecDepth 100000 in
set_option maxHeartbeats 4000000 in
theorem lp_TC_run (X : tk_X p m c0 s args (ks_G P) R_TC b_TC_run 6 WS) (hP : ks_ok P) {N : Nat} (hN : N ≤ 16) (x : Int32) (hI : ∀ (a : ks_M) (c : Nat), c < ks_n P → k_I (ks_n P) a → k_I (ks_n P) (k_step (ks_n P) (ks_S P) (ks_W P) a c).2) (b : ks_M) (o : ks_O) {r : Int32 × ks_M} (kend : ∀ t5, tk_go p l e (ks_rm 7) s m args below meth c0 (ks_G P) (ks_dm P) 6 0 0 Q (ks_sl P r.2 b o) 71 [some (.ref (tk_ad (ks_G P) (0, 0, 0))), some (.int x), some (.int (nI N)), some (.int r.1), some (.int (nI N)), t5] []) : ∀ (k i : Nat) (v : Int32) (a : ks_M) (t5 : Option Value), i + k = N → k_I (ks_n P) a → k_run (ks_n P) (ks_S P) (ks_W P) x k i v a = r → tk_go p l e (ks_rm 7) s m args below meth c0 (ks_G P) (ks_dm P) 6 0 0 Q (ks_sl P a b o) 25 [some (.ref (tk_ad (ks_G P) (0, 0, 0))), some (.int x), some (.int (nI N)), some (.int v), some (.int (nI i)), t5] [] := by
  have hn64 := ks_n64 hP
  have hT64 := ks_T64 hP
  intro k
  induction k with
  | zero =>
    intro i v a t5 hi hJ hk
    have hiT : i = N := by omega
    subst hiT
    have hk2 : (v, a) = r := hk
    subst hk2
    refine tk_iload X d_TC_run_25 rfl ?_
    refine tk_iload_n X d_TC_run_27 rfl rfl ?_
    refine tk_icmp_ge (tgt := 71) X d_TC_run_28 (by decide) (fun _ => ?_) (fun h => absurd (nI_le (Nat.le_refl _) (by omega)) h)
    exact kend t5
  | succ k ih =>
    intro i v a t5 hi hJ hk
    have hi2 : i < N := by omega
    have hq := q_core_lt (n := ks_n P) hP.1 x i
    refine tk_iload X d_TC_run_25 rfl ?_
    refine tk_iload_n X d_TC_run_27 rfl rfl ?_
    refine tk_icmp_ge (tgt := 71) X d_TC_run_28 (by decide) (fun h => absurd h (nI_ge hi2 (by omega))) (fun _ => ?_)
    refine tk_iload_n X d_TC_run_31 rfl rfl ?_
    refine tk_iconst (v := 2) X d_TC_run_32 (by decide) ?_
    refine tk_iload X d_TC_run_33 rfl ?_
    refine tk_imul X d_TC_run_35 ?_
    refine tk_iushr X d_TC_run_36 rfl ?_
    refine tk_iconst (v := 3) X d_TC_run_37 (by decide) ?_
    refine tk_iand X d_TC_run_38 ?_
    refine tk_aload_n X d_TC_run_39 rfl rfl ?_
    refine tk_get X (k := (0, 0, 0)) (dm := ks_dm P) (ks_d0 (by decide)) rfl hc_TC hi_TC 1 (by decide) m_TC_22 (v := .ref (tk_ad (ks_G P) (3, 0, 0))) rfl d_TC_run_40 ?_
    refine tk_alen X (k := (3, 0, 0)) (dm := ks_dm P) (ks_d0 (by decide)) rfl rfl (v := nI _) rfl d_TC_run_43 ?_
    refine tk_irem X d_TC_run_44 (nI_ne0 hP.1 (by omega)) ?_
    refine tk_istore X d_TC_run_45 (by decide) rfl ?_
    refine tk_aload_n X d_TC_run_47 rfl rfl ?_
    refine tk_aload_n X d_TC_run_48 rfl rfl ?_
    refine tk_get X (k := (0, 0, 0)) (dm := ks_dm P) (ks_d0 (by decide)) rfl hc_TC hi_TC 1 (by decide) m_TC_22 (v := .ref (tk_ad (ks_G P) (3, 0, 0))) rfl d_TC_run_49 ?_
    refine tk_iload X d_TC_run_52 rfl ?_
    refine kw_core X (i := (q_core (ks_n P) x i)) (q_core_eq hP.1 (by omega) x i) hq hn64 d_TC_run_54 ?_
    refine tk_callV X (kb := (0, 0, 0)) (ks_d0 (by decide)) rfl hc_TC (c_TC_takeStep l P hP (q_core (ks_n P) x i) hq a b o (hJ _ hq).1) (ks_site (n := 1) mc_TC_takeStep mi_TC (by decide +kernel) (by decide) (by decide)) m_TC_75 ms_TC_takeStep mv_TC_takeStep rfl (Nat.le_of_ble_eq_true rfl) ⟨Nat.le_of_ble_eq_true rfl, Nat.le_of_ble_eq_true rfl⟩ rfl d_TC_run_55 ?_
    refine tk_iconst (v := 3) X d_TC_run_58 (by decide) ?_
    refine tk_icmp_ne (tgt := 65) X d_TC_run_59 (by decide) (fun h1 => ?_) (fun h1 => ?_)
    · skip
      refine tk_iinc (v := nI (i + 1)) X d_TC_run_65 rfl (q_inc i) (by decide) rfl ?_
      refine tk_goto (tgt := 25) X d_TC_run_68 (by decide) ?_
      exact ih (i + 1) _ _ _ (by omega) (hI a _ hq hJ) (by rw [k_run, if_neg h1] at hk; exact hk)
    · skip
      refine tk_iinc X d_TC_run_62 rfl rfl (by decide) rfl ?_
      refine tk_iinc (v := nI (i + 1)) X d_TC_run_65 rfl (q_inc i) (by decide) rfl ?_
      refine tk_goto (tgt := 25) X d_TC_run_68 (by decide) ?_
      exact ih (i + 1) _ _ _ (by omega) (hI a _ hq hJ) (by rw [k_run, if_pos h1] at hk; exact hk)
end LP

set_option maxRecDepth 100000 in
set_option maxHeartbeats 4000000 in
theorem c_TC_run_open (l : Launch) (P : ks_P) (hP : ks_ok P) (N : Nat) (hN : N ≤ 16) (x : Int32) (hI : ∀ (a : ks_M) (c : Nat), c < ks_n P → k_I (ks_n P) a → k_I (ks_n P) (k_step (ks_n P) (ks_S P) (ks_W P) a c).2) (a b : ks_M) (o : ks_O) (hJ : k_I (ks_n P) a) : kc l P y_TC_run b_TC_run 6 (some .int) 7 [.ref (tk_ad (ks_G P) (0, 0, 0)), .int x, .int (nI N)] a b o (some (.int (k_run (ks_n P) (ks_S P) (ks_W P) x N 0 0 a).1)) (k_run (ks_n P) (ks_S P) (ks_W P) x N 0 0 a).2 b o := by
  have hn64 := ks_n64 hP
  have hT64 := ks_T64 hP
  refine tk_of hP.2.2.2.2.2 (by decide) rfl (Nat.le_of_ble_eq_true rfl) ?_
  intro p e s m below meth c0 X hlk hr hnm
  refine tk_iload_n X d_TC_run_0 rfl rfl ?_
  refine tk_if_lt (tgt := 10) X d_TC_run_1 (by decide) (fun h => absurd h (nI_pos (by omega))) (fun _ => ?_)
  refine tk_iload_n X d_TC_run_4 rfl rfl ?_
  refine tk_bipush (v := 16) X d_TC_run_5 (by decide) ?_
  refine tk_icmp_le (tgt := 20) X d_TC_run_7 (by decide) (fun _ => ?_) (fun h => absurd (nI_le hN (by decide)) h)
  refine tk_iconst (v := 0) X d_TC_run_20 (by decide) ?_
  refine tk_istore_n X d_TC_run_21 rfl (by decide) rfl ?_
  refine tk_iconst (v := 0) X d_TC_run_22 (by decide) ?_
  refine tk_istore X d_TC_run_23 (by decide) rfl ?_
  refine lp_TC_run X hP hN x hI b o (r := k_run (ks_n P) (ks_S P) (ks_W P) x N 0 0 a) (fun t5 => ?_) N 0 0 a _ (by omega) hJ rfl
  refine tk_iload_n X d_TC_run_71 rfl rfl ?_
  exact tk_iret X hlk hr d_TC_run_72 rfl (fun _ h => h) (Or.inr rfl) (fun _ _ => rfl)
end
section
theorem q_ix_nI {n : Nat} (h : n < 2 ^ 31) : q_ix (nI n) = n := nI_clamp h
def r_pj (W c j : Nat) : Nat := 12 * c + 3 * (j / W) + j % W
theorem r_pj_lt {P : ks_P} (hP : ks_ok P) {c j : Nat} (hc : c < ks_n P) (hj : j < ks_T P) : r_pj (ks_W P) c j < 36 := by
  have h1 := hP.2.1
  have h2 := hP.2.2.2.2.1
  have h0 := hP.2.2.2.1
  have h3 : j % ks_W P < ks_W P := Nat.mod_lt _ h0
  have h4 : j / ks_W P < ks_S P := Nat.div_lt_of_lt_mul (by rw [Nat.mul_comm]; exact hj)
  have h5 : ks_S P ≤ 4 := by rcases hP.2.2.1 with h | h | h <;> omega
  unfold r_pj
  omega
theorem r_pj_F {P : ks_P} (hP : ks_ok P) (c y : Nat) {u : Nat} (hu : u < ks_W P) : 12 * c + 3 * (y % ks_S P) + u = r_pj (ks_W P) c (k_first (ks_S P) (ks_W P) y + u) := by
  have h0 := hP.2.2.2.1
  unfold r_pj k_first
  rw [Nat.mul_comm (y % ks_S P), Nat.mul_add_div h0, Nat.mul_add_mod, Nat.div_eq_of_lt hu, Nat.mod_eq_of_lt hu]
  omega
theorem ks_vk_pj {P : ks_P} (hP : ks_ok P) {c j : Nat} (hj : j < ks_T P) : ((7, r_pj (ks_W P) c j / 12, ks_J (ks_S P) (ks_W P) (r_pj (ks_W P) c j % 12)) : tk_K) = (7, c, j) := by
  have h2 := hP.2.2.2.2.1
  have h0 := hP.2.2.2.1
  have h3 : j % ks_W P < ks_W P := Nat.mod_lt _ h0
  have h4 : j / ks_W P < ks_S P := Nat.div_lt_of_lt_mul (by rw [Nat.mul_comm]; exact hj)
  have h5 : ks_S P ≤ 4 := by rcases hP.2.2.1 with h | h | h <;> omega
  have e1 : r_pj (ks_W P) c j / 12 = c := by unfold r_pj; omega
  have e2 : r_pj (ks_W P) c j % 12 = 3 * (j / ks_W P) + j % ks_W P := by unfold r_pj; omega
  have e3 : (3 * (j / ks_W P) + j % ks_W P) % 3 = j % ks_W P := by omega
  have e4 : (3 * (j / ks_W P) + j % ks_W P) / 3 = j / ks_W P := by omega
  have e5 : ks_J (ks_S P) (ks_W P) (3 * (j / ks_W P) + j % ks_W P) = j := by
    unfold ks_J
    rw [e3, e4, if_pos ⟨h3, h4⟩, Nat.mul_comm]
    exact Nat.div_add_mod j (ks_W P)
  rw [e1, e2, e5]
def r_int (W c : Nat) (q : Option Nat) : Int32 := match q with
  | none => -1
  | some j => nI (r_pj W c j)
theorem nI_nm1 {n : Nat} (h : n < 2 ^ 31) : ¬ nI n = -1 := fun e => by
  have h1 := nI_toInt h
  rw [e] at h1
  have h2 : (-1 : Int32).toInt = -1 := by decide
  omega
theorem r_place {P : ks_P} (hP : ks_ok P) {c y u : Nat} (hy : y < 32) (hu : u < ks_W P) : 12 * nI c + 3 * (nI y - nI y / nI (ks_S P) * nI (ks_S P)) + nI u = nI (r_pj (ks_W P) c (k_first (ks_S P) (ks_W P) y + u)) := by
  have h0 : 0 < ks_S P := by rcases hP.2.2.1 with h | h | h <;> omega
  have h5 : ks_S P ≤ 4 := by rcases hP.2.2.1 with h | h | h <;> omega
  rw [pk_rem (by omega) h0 (by omega), show (12 : Int32) = nI 12 from rfl, show (3 : Int32) = nI 3 from rfl, pk_mul, pk_mul, nI_add, nI_add, r_pj_F hP c y hu]
def r_mat (b : ks_M) (c y j : Nat) : Prop := ¬ b (7, c, j) 0 = 0 ∧ b (7, c, j) 1 = nI y
def r_find (b : ks_M) (c y F : Nat) : Nat → Option Nat
  | 0 => none
  | u + 1 => if ¬ b (7, c, F + u) 0 = 0 ∧ b (7, c, F + u) 1 = nI y then some (F + u) else r_find b c y F u
theorem k_find_snoc (b : ks_M) (c y : Nat) : ∀ (k F : Nat), k_find b c y (k + 1) F = match k_find b c y k F with
    | some j => some j
    | none => if ¬ b (7, c, F + k) 0 = 0 ∧ b (7, c, F + k) 1 = nI y then some (F + k) else none
  | 0, F => by
    rw [k_find, k_find]
    rfl
  | k + 1, F => by
    rw [k_find, k_find_snoc b c y k (F + 1)]
    conv => rhs; rw [k_find]
    by_cases h : ¬ b (7, c, F) 0 = 0 ∧ b (7, c, F) 1 = nI y
    · rw [if_pos h, if_pos h]
    · rw [if_neg h, if_neg h, show F + 1 + k = F + (k + 1) by omega]
theorem k_find_mat (b : ks_M) (c y : Nat) : ∀ (k F : Nat) {j : Nat}, k_find b c y k F = some j → r_mat b c y j
  | 0, F, j, h => by cases h
  | k + 1, F, j, h => by
    rw [k_find] at h
    split at h
    · rename_i h1
      cases h
      exact h1
    · exact k_find_mat b c y k (F + 1) h
def r_uniq (b : ks_M) (c T : Nat) : Prop := ∀ j j', j < T → j' < T → ¬ b (7, c, j) 0 = 0 → ¬ b (7, c, j') 0 = 0 → b (7, c, j) 1 = b (7, c, j') 1 → j = j'
theorem r_find_eq {b : ks_M} {c y F T : Nat} (hu : r_uniq b c T) : ∀ (k : Nat), F + k ≤ T → r_find b c y F k = k_find b c y k F
  | 0, _ => rfl
  | k + 1, hk => by
    rw [r_find, k_find_snoc, r_find_eq hu k (by omega)]
    cases h : k_find b c y k F with
    | none => rfl
    | some j =>
      have h1 := k_find_lt b c y k F h
      have h2 := k_find_mat b c y k F h
      rw [if_neg]
      intro q
      have := hu j (F + k) (by omega) (by omega) h2.1 q.1 (h2.2.trans q.2.symm)
      omega
def k_inv (b : ks_M) (c : Nat) : Nat → Nat → Option Nat
  | 0, _ => none
  | k + 1, j => if b (7, c, j) 0 = 0 then some j else k_inv b c k (j + 1)
def r_dn (b : ks_M) (c F : Nat) : Nat → Option Nat → Option Nat
  | 0, q => q
  | i + 1, q => r_dn b c F i (if b (7, c, F + i) 0 = 0 then some (F + i) else q)
def r_up (b : ks_M) (c : Nat) : Nat → Nat → Option Nat → Option Nat
  | 0, _, q => q
  | k + 1, j, q => r_up b c k (j + 1) (if b (7, c, j) 2 = 0 ∧ k_bet b c j q = true then some j else q)
theorem k_room_eq (b : ks_M) (c : Nat) : ∀ (k j : Nat) (q : Option Nat), k_room b c k j q = match k_inv b c k j with
    | some i => some i
    | none => r_up b c k j q
  | 0, j, q => rfl
  | k + 1, j, q => by
    rw [k_room, k_inv, r_up]
    by_cases h : b (7, c, j) 0 = 0
    · rw [if_pos h, if_pos h]
    · rw [if_neg h, if_neg h, k_room_eq b c k (j + 1)]
theorem k_inv_snoc (b : ks_M) (c : Nat) : ∀ (k F : Nat), k_inv b c (k + 1) F = match k_inv b c k F with
    | some j => some j
    | none => if b (7, c, F + k) 0 = 0 then some (F + k) else none
  | 0, F => by
    rw [k_inv, k_inv]
    rfl
  | k + 1, F => by
    rw [k_inv, k_inv_snoc b c k (F + 1)]
    conv => rhs; rw [k_inv]
    by_cases h : b (7, c, F) 0 = 0
    · rw [if_pos h, if_pos h]
    · rw [if_neg h, if_neg h, show F + 1 + k = F + (k + 1) by omega]
theorem r_dn_eq (b : ks_M) (c F : Nat) : ∀ (i : Nat) (q : Option Nat), r_dn b c F i q = match k_inv b c i F with
    | some j => some j
    | none => q
  | 0, q => rfl
  | i + 1, q => by
    rw [r_dn, r_dn_eq b c F i, k_inv_snoc]
    cases k_inv b c i F with
    | some j => rfl
    | none =>
      by_cases h : b (7, c, F + i) 0 = 0
      · simp [h]
      · simp [h]
def k_abv (T : Nat) (a : ks_M) (c q : Nat) (v : Int32) : ks_M := ks_up (k_ab2 T a c v) (11, c, 0) q (k_ab2 T a c v (11, c, 0) q + 1)
def r_ab1 (S W : Nat) (b : ks_M) (c r : Nat) : ks_M := if b (7, c, ks_J S W r) 2 &&& 2 = 0 then b else ks_up b (7, c, ks_J S W r) 0 0
def r_ab (S W : Nat) (b : ks_M) (c : Nat) : Nat → ks_M
  | 0 => b
  | r + 1 => ks_up (r_ab1 S W (r_ab S W b c r) c r) (7, c, ks_J S W r) 2 0
def r_cp (b : ks_M) (c : Nat) : Nat → ks_M
  | 0 => b
  | r + 1 => ks_up (r_cp b c r) (9, c, 0) r (r_cp b c r (10, c, 0) r)
def q_lin (x : Int32) : Prop := ∃ l : Nat, l < 32 ∧ x = nI l
theorem q_2x {x : Int32} (h : q_lin x) : 2 * x = nI (q_ix ((2 * x) &&& 63)) ∧ 2 * x + 1 = nI (q_ix ((2 * x + 1) &&& 63)) := by
  obtain ⟨l, hl, rfl⟩ := h
  have e1 : 2 * nI l = nI (2 * l) := by rw [show (2 : Int32) = nI 2 from rfl, pk_mul]
  have e2 : 2 * nI l + 1 = nI (2 * l + 1) := by rw [e1, nI_1]
  rw [e1, nI_1, pk_andN (by omega) 6 (by decide), pk_andN (by omega) 6 (by decide), q_ix_nI (by omega), q_ix_nI (by omega), Nat.mod_eq_of_lt (by omega), Nat.mod_eq_of_lt (by omega)]
  exact ⟨rfl, rfl⟩
end
section
theorem ks_J_inj {P : ks_P} (hP : ks_ok P) {r r' : Nat} (h : r < 12) (h' : r' < 12) (e : ks_J (ks_S P) (ks_W P) r = ks_J (ks_S P) (ks_W P) r') : r = r' := by
  have hS : ks_S P < 5 := by rcases hP.2.2.1 with h | h | h <;> omega
  have hW : ks_W P < 4 := by have := hP.2.2.2.2.1; omega
  have e1 := ks_I_J (ks_S P) hS (ks_W P) hW r h hP.2.2.2.1
  have e2 := ks_I_J (ks_S P) hS (ks_W P) hW r' h' hP.2.2.2.1
  rw [e, e2] at e1
  exact e1.symm
theorem ks_J_T {P : ks_P} (hP : ks_ok P) {j : Nat} (hj : j < ks_T P) : ∃ r, r < 12 ∧ ks_J (ks_S P) (ks_W P) r = j := by
  have h2 := hP.2.2.2.2.1
  have h0 := hP.2.2.2.1
  have h3 : j % ks_W P < ks_W P := Nat.mod_lt _ h0
  have h4 : j / ks_W P < ks_S P := Nat.div_lt_of_lt_mul (by rw [Nat.mul_comm]; exact hj)
  have h5 : ks_S P ≤ 4 := by rcases hP.2.2.1 with h | h | h <;> omega
  refine ⟨3 * (j / ks_W P) + j % ks_W P, by omega, ?_⟩
  unfold ks_J
  rw [show (3 * (j / ks_W P) + j % ks_W P) % 3 = j % ks_W P by omega, show (3 * (j / ks_W P) + j % ks_W P) / 3 = j / ks_W P by omega, if_pos ⟨h3, h4⟩, Nat.mul_comm]
  exact Nat.div_add_mod j (ks_W P)
theorem k_dw_ne (a : ks_M) (c : Nat) : ∀ (k : Nat) (k' : tk_K) (i' : Nat), (∀ j, j < k → ¬ (k' = (7, c, j) ∧ i' = 0)) → k_dw a c k k' i' = a k' i'
  | 0, _, _, _ => rfl
  | k + 1, k', i', h => by
    have ih := k_dw_ne a c k k' i' (fun j hj => h j (by omega))
    rw [k_dw]
    split
    · rw [ks_up_ne _ _ (h k (by omega)), ih]
    · exact ih
theorem k_dw_at (a : ks_M) (c : Nat) : ∀ (k j : Nat), j < k → k_dw a c k (7, c, j) 0 = if a (7, c, j) 2 &&& 2 = 0 then a (7, c, j) 0 else 0
  | 0, j, h => absurd h (by omega)
  | k + 1, j, h => by
    have e2 : k_dw a c k (7, c, k) 2 = a (7, c, k) 2 := k_dw_ne a c k _ _ (fun j hj q => by simp at q)
    rw [k_dw, e2]
    by_cases hk : j = k
    · subst hk
      have e0 : k_dw a c j (7, c, j) 0 = a (7, c, j) 0 := k_dw_ne a c j _ _ (fun j' hj q => by simp at q; omega)
      by_cases hm : a (7, c, j) 2 &&& 2 = 0
      · rw [if_neg (not_not_intro hm), if_pos hm, e0]
      · rw [if_pos hm, if_neg hm, ks_up_eq]
    · have ih := k_dw_at a c k j (by omega)
      split
      · rw [ks_up_ne _ _ (fun q => by simp at q; exact hk q), ih]
      · exact ih
theorem k_dm_ne (a : ks_M) (c : Nat) : ∀ (k : Nat) (k' : tk_K) (i' : Nat), (∀ j, j < k → ¬ (k' = (7, c, j) ∧ i' = 2)) → k_dm a c k k' i' = a k' i'
  | 0, _, _, _ => rfl
  | k + 1, k', i', h => by
    rw [k_dm, ks_up_ne _ _ (h k (by omega)), k_dm_ne a c k k' i' (fun j hj => h j (by omega))]
theorem k_dm_at (a : ks_M) (c : Nat) : ∀ (k j : Nat), j < k → k_dm a c k (7, c, j) 2 = 0
  | 0, j, h => absurd h (by omega)
  | k + 1, j, h => by
    rw [k_dm]
    by_cases hk : j = k
    · subst hk
      rw [ks_up_eq]
    · rw [ks_up_ne _ _ (fun q => by simp at q; exact hk q), k_dm_at a c k j (by omega)]
theorem r_ab_ne (S W : Nat) (b : ks_M) (c : Nat) : ∀ (r : Nat) (k' : tk_K) (i' : Nat), (∀ s, s < r → ¬ (k' = (7, c, ks_J S W s) ∧ (i' = 0 ∨ i' = 2))) → r_ab S W b c r k' i' = b k' i'
  | 0, _, _, _ => rfl
  | r + 1, k', i', h => by
    have ih := r_ab_ne S W b c r k' i' (fun s hs => h s (by omega))
    have hr := h r (by omega)
    rw [r_ab, ks_up_ne _ _ (fun q => hr ⟨q.1, Or.inr q.2⟩)]
    unfold r_ab1
    split
    · exact ih
    · rw [ks_up_ne _ _ (fun q => hr ⟨q.1, Or.inl q.2⟩), ih]
theorem r_ab_at {P : ks_P} (hP : ks_ok P) (b : ks_M) (c : Nat) : ∀ (r s : Nat), s < r → r ≤ 12 → r_ab (ks_S P) (ks_W P) b c r (7, c, ks_J (ks_S P) (ks_W P) s) 2 = 0 ∧ r_ab (ks_S P) (ks_W P) b c r (7, c, ks_J (ks_S P) (ks_W P) s) 0 = if b (7, c, ks_J (ks_S P) (ks_W P) s) 2 &&& 2 = 0 then b (7, c, ks_J (ks_S P) (ks_W P) s) 0 else 0
  | 0, s, h, _ => absurd h (by omega)
  | r + 1, s, h, hr => by
    have hd : ∀ x, x < r → ks_J (ks_S P) (ks_W P) r ≠ ks_J (ks_S P) (ks_W P) x := fun x hx q => by
      have := ks_J_inj hP (by omega) (by omega) q
      omega
    have e2 : r_ab (ks_S P) (ks_W P) b c r (7, c, ks_J (ks_S P) (ks_W P) r) 2 = b (7, c, ks_J (ks_S P) (ks_W P) r) 2 := r_ab_ne _ _ b c r _ _ (fun x hx q => by simp at q; exact hd x hx q)
    have e0 : r_ab (ks_S P) (ks_W P) b c r (7, c, ks_J (ks_S P) (ks_W P) r) 0 = b (7, c, ks_J (ks_S P) (ks_W P) r) 0 := r_ab_ne _ _ b c r _ _ (fun x hx q => by simp at q; exact hd x hx q)
    by_cases hk : s = r
    · subst hk
      refine ⟨by rw [r_ab, ks_up_eq], ?_⟩
      rw [r_ab, ks_up_ne _ _ (fun q => by simp at q)]
      unfold r_ab1
      rw [e2]
      by_cases hm : b (7, c, ks_J (ks_S P) (ks_W P) s) 2 &&& 2 = 0
      · rw [if_pos hm, if_pos hm, e0]
      · rw [if_neg hm, if_neg hm, ks_up_eq]
    · have ih := r_ab_at hP b c r s (by omega) (by omega)
      have hne : ks_J (ks_S P) (ks_W P) s ≠ ks_J (ks_S P) (ks_W P) r := fun q => hd s (by omega) q.symm
      have n1 : ∀ (i i' : Nat), ¬ (((7, c, ks_J (ks_S P) (ks_W P) s) : tk_K) = (7, c, ks_J (ks_S P) (ks_W P) r) ∧ i' = i) := fun i i' q => hne (by have := q.1; simp at this; exact this)
      rw [r_ab, ks_up_ne _ _ (n1 _ _), ks_up_ne _ _ (n1 _ _)]
      unfold r_ab1
      split
      · exact ih
      · rw [ks_up_ne _ _ (n1 _ _), ks_up_ne _ _ (n1 _ _)]
        exact ih
theorem r_ab_eq {P : ks_P} (hP : ks_ok P) (b : ks_M) (c : Nat) (hj : ∀ j, ks_T P ≤ j → b (7, c, j) 2 = 0) : r_ab (ks_S P) (ks_W P) b c 12 = k_dm (k_dw b c (ks_T P)) c (ks_T P) := by
  funext k' i'
  by_cases hk : ∃ j, k' = (7, c, j)
  · obtain ⟨j, rfl⟩ := hk
    have dwm : ∀ j' : Nat, k_dw b c (ks_T P) (7, c, j') 2 = b (7, c, j') 2 := fun j' => k_dw_ne b c _ _ _ (fun _ _ q => by simp at q)
    by_cases hjT : j < ks_T P
    · obtain ⟨r, hr, rfl⟩ := ks_J_T hP hjT
      have h1 := r_ab_at hP b c 12 r hr (by omega)
      by_cases i2 : i' = 2
      · subst i2
        rw [h1.1, k_dm_at _ c _ _ hjT]
      · rw [k_dm_ne _ c _ _ _ (fun _ _ q => i2 q.2)]
        by_cases i0 : i' = 0
        · subst i0
          rw [h1.2, k_dw_at b c _ _ hjT]
        · rw [k_dw_ne b c _ _ _ (fun _ _ q => i0 q.2), r_ab_ne _ _ b c 12 _ _ (fun _ _ q => by rcases q.2 with q | q <;> omega)]
    · rw [k_dm_ne _ c _ _ _ (fun j2 h2 q => by simp at q; omega), k_dw_ne b c _ _ _ (fun j2 h2 q => by simp at q; omega)]
      by_cases hh : ∃ r, r < 12 ∧ ks_J (ks_S P) (ks_W P) r = j
      · obtain ⟨r, hr, rfl⟩ := hh
        have h1 := r_ab_at hP b c 12 r hr (by omega)
        have h0 := hj _ (Nat.not_lt.mp hjT)
        by_cases i2 : i' = 2
        · subst i2
          rw [h1.1, h0]
        · by_cases i0 : i' = 0
          · subst i0
            rw [h1.2, h0, if_pos (by decide)]
          · rw [r_ab_ne _ _ b c 12 _ _ (fun _ _ q => by rcases q.2 with q | q <;> omega)]
      · rw [r_ab_ne _ _ b c 12 _ _ (fun s hs q => hh ⟨s, hs, by have := q.1; simp at this; exact this.symm⟩)]
  · rw [k_dm_ne _ c _ _ _ (fun j _ q => hk ⟨j, q.1⟩), k_dw_ne b c _ _ _ (fun j _ q => hk ⟨j, q.1⟩), r_ab_ne _ _ b c 12 _ _ (fun s _ q => hk ⟨_, q.1⟩)]
theorem r_cp_at (b : ks_M) (c : Nat) : ∀ (r : Nat), r_cp b c r = k_cp b (10, c, 0) (9, c, 0) r
  | 0 => by
    funext k i
    simp [r_cp, k_cp]
  | r + 1 => by
    rw [r_cp, r_cp_at b c r]
    funext k i
    by_cases h : k = (9, c, 0) ∧ i = r
    · obtain ⟨rfl, rfl⟩ := h
      rw [ks_up_eq]
      simp [k_cp]
    · rw [ks_up_ne _ _ h]
      unfold k_cp
      by_cases h1 : k = (9, c, 0)
      · subst h1
        have h2 : ¬ i = r := fun q => h ⟨rfl, q⟩
        by_cases h3 : i < r
        · rw [if_pos ⟨rfl, h3⟩, if_pos ⟨rfl, by omega⟩]
        · rw [if_neg (fun q => h3 q.2), if_neg (fun q => by have := q.2; omega)]
      · rw [if_neg (fun q => h1 q.1), if_neg (fun q => h1 q.1)]
theorem v12k (S W : Nat) {c r : Nat} (hr : r < 12) : ((7, (12 * c + r) / 12, ks_J S W ((12 * c + r) % 12)) : tk_K) = (7, c, ks_J S W r) := by
  rw [show (12 * c + r) / 12 = c by omega, show (12 * c + r) % 12 = r by omega]
theorem v8k (f : Nat) {c r : Nat} (hr : r < 8) : ((f, (8 * c + r) / 8, 0) : tk_K) = (f, c, 0) := by
  rw [show (8 * c + r) / 8 = c by omega]
theorem v8i {c r : Nat} (hr : r < 8) : (8 * c + r) % 8 = r := by omega
theorem v6k (f : Nat) {c r : Nat} (hr : r < 6) : ((f, (6 * c + r) / 6, 0) : tk_K) = (f, c, 0) := by
  rw [show (6 * c + r) / 6 = c by omega]
theorem v6i {c r : Nat} (hr : r < 6) : (6 * c + r) % 6 = r := by omega
theorem v16k (f : Nat) {c r : Nat} (hr : r < 16) : ((f, (16 * c + r) / 16, 0) : tk_K) = (f, c, 0) := by
  rw [show (16 * c + r) / 16 = c by omega]
theorem v16i {c r : Nat} (hr : r < 16) : (16 * c + r) % 16 = r := by omega
theorem q_mul (m c r : Nat) : nI m * nI c + nI r = nI (m * c + r) := by rw [pk_mul, nI_add]
theorem q_dec (x : Int32) : x + Int32.ofInt (-1) = x - 1 := by
  rw [show Int32.ofInt (-1) = -1 from by decide, Int32.sub_eq_add_neg]
theorem r_room0 {b : ks_M} {c F W : Nat} (h : r_dn b c F W none = none) : k_room b c W F none = r_up b c W F none := by
  rw [r_dn_eq] at h
  rw [k_room_eq]
  cases hi : k_inv b c W F with
  | none => rfl
  | some j => rw [hi] at h; cases h
theorem r_room1 {b : ks_M} {c F W j : Nat} (h : r_dn b c F W none = some j) : k_room b c W F none = some j := by
  rw [r_dn_eq] at h
  rw [k_room_eq]
  cases hi : k_inv b c W F with
  | none => rw [hi] at h; cases h
  | some i => rw [hi] at h; exact h
theorem k_keep1_7 (b : ks_M) (c j : Nat) (c' j' i : Nat) : k_keep1 b c j (7, c', j') i = b (7, c', j') i := by
  unfold k_keep1 k_put
  exact ks_up_nk b _ (by simp)
end
section
set_option maxRecDepth 100000 in
set_option maxHeartbeats 4000000 in
theorem c_Model_thrown (l : Launch) (P : ks_P) (hP : ks_ok P)  (a b : ks_M) (o : ks_O) : kc l P y_Model_thrown b_Model_thrown 1 (some .int) 0 [.ref (tk_ad (ks_G P) (12, 0, 0))] a b o (some (.int o.2)) a b o := by
  have hn64 := ks_n64 hP
  have hT64 := ks_T64 hP
  refine tk_of hP.2.2.2.2.2 (by decide) rfl (Nat.le_of_ble_eq_true rfl) ?_
  intro p e s m below meth c0 X hlk hr hnm
  refine tk_aload_n X d_Model_thrown_0 rfl rfl ?_
  refine tk_get X (k := (12, 0, 0)) (dm := ks_dm P) (ks_d0 (by decide)) rfl hc_Model hi_Model 3 (by decide) m_Model_66 (v := .int _) rfl d_Model_thrown_1 ?_
  exact tk_iret X hlk hr d_Model_thrown_4 (rfl) (fun _ h => h) (Or.inr rfl) (fun _ _ => rfl)

set_option maxRecDepth 100000 in
set_option maxHeartbeats 4000000 in
theorem c_Model_fail (l : Launch) (P : ks_P) (hP : ks_ok P) (x : Int32) (a b : ks_M) (o : ks_O) : kc l P y_Model_fail b_Model_fail 2 (some .int) 0 [.ref (tk_ad (ks_G P) (12, 0, 0)), .int x] a b o (some (.int 0)) a b (o.1, x) := by
  have hn64 := ks_n64 hP
  have hT64 := ks_T64 hP
  refine tk_of hP.2.2.2.2.2 (by decide) rfl (Nat.le_of_ble_eq_true rfl) ?_
  intro p e s m below meth c0 X hlk hr hnm
  refine tk_aload_n X d_Model_fail_0 rfl rfl ?_
  refine tk_iload_n X d_Model_fail_1 rfl rfl ?_
  refine kr_code X hc_Model hi_Model t_Model t_Model_ok n_Model (by decide) m_Model_66 rfl rfl rfl d_Model_fail_2 ?_
  refine tk_iconst (v := 0) X d_Model_fail_5 (by decide) ?_
  exact tk_iret X hlk hr d_Model_fail_6 (rfl) (fun _ h => h) (Or.inr rfl) (fun _ _ => rfl)

set_option maxRecDepth 100000 in
set_option maxHeartbeats 4000000 in
theorem c_Model_isCore (l : Launch) (P : ks_P) (hP : ks_ok P) (c : Nat) (hc : c < ks_n P) (a b : ks_M) (o : ks_O) : kc l P y_Model_isCore b_Model_isCore 2 (some .boolean) 0 [.ref (tk_ad (ks_G P) (12, 0, 0)), .int (nI c)] a b o (some (.int 1)) a b o := by
  have hn64 := ks_n64 hP
  have hT64 := ks_T64 hP
  refine tk_of hP.2.2.2.2.2 (by decide) rfl (Nat.le_of_ble_eq_true rfl) ?_
  intro p e s m below meth c0 X hlk hr hnm
  refine tk_iload_n X d_Model_isCore_0 rfl rfl ?_
  refine tk_if_lt (tgt := 16) X d_Model_isCore_1 (by decide) (fun h => absurd h (nI_pos (by omega))) (fun _ => ?_)
  refine tk_iload_n X d_Model_isCore_4 rfl rfl ?_
  refine tk_aload_n X d_Model_isCore_5 rfl rfl ?_
  refine tk_get X (k := (12, 0, 0)) (dm := ks_dm P) (ks_d0 (by decide)) rfl hc_Model hi_Model 0 (by decide) m_Model_56 (v := .int _) rfl d_Model_isCore_6 ?_
  refine tk_icmp_ge (tgt := 16) X d_Model_isCore_9 (by decide) (fun h => absurd h (nI_ge hc (by omega))) (fun _ => ?_)
  refine tk_iconst (v := 1) X d_Model_isCore_12 (by decide) ?_
  refine tk_goto (tgt := 17) X d_Model_isCore_13 (by decide) ?_
  exact tk_zret X hlk hr (by decide) d_Model_isCore_17 rfl (fun _ h => h) (Or.inr rfl) (fun _ _ => rfl)

set_option maxRecDepth 100000 in
set_option maxHeartbeats 4000000 in
theorem c_Model_isCore0 (l : Launch) (P : ks_P) (hP : ks_ok P) (x : Int32) (hx : x < 0 ∨ nI (ks_n P) ≤ x) (a b : ks_M) (o : ks_O) : kc l P y_Model_isCore b_Model_isCore 2 (some .boolean) 0 [.ref (tk_ad (ks_G P) (12, 0, 0)), .int x] a b o (some (.int 0)) a b o := by
  have hn64 := ks_n64 hP
  have hT64 := ks_T64 hP
  refine tk_of hP.2.2.2.2.2 (by decide) rfl (Nat.le_of_ble_eq_true rfl) ?_
  intro p e s m below meth c0 X hlk hr hnm
  refine tk_iload_n X d_Model_isCore_0 rfl rfl ?_
  refine tk_if_lt (tgt := 16) X d_Model_isCore_1 (by decide) (fun h1 => ?_) (fun h1 => ?_)
  · skip
    refine tk_iconst (v := 0) X d_Model_isCore_16 (by decide) ?_
    exact tk_zret X hlk hr (by decide) d_Model_isCore_17 rfl (fun _ h => h) (Or.inr rfl) (fun _ _ => rfl)
  · skip
    refine tk_iload_n X d_Model_isCore_4 rfl rfl ?_
    refine tk_aload_n X d_Model_isCore_5 rfl rfl ?_
    refine tk_get X (k := (12, 0, 0)) (dm := ks_dm P) (ks_d0 (by decide)) rfl hc_Model hi_Model 0 (by decide) m_Model_56 (v := .int _) rfl d_Model_isCore_6 ?_
    refine tk_icmp_ge (tgt := 16) X d_Model_isCore_9 (by decide) (fun _ => ?_) (fun h => absurd (hx.resolve_left h1) h)
    refine tk_iconst (v := 0) X d_Model_isCore_16 (by decide) ?_
    exact tk_zret X hlk hr (by decide) d_Model_isCore_17 rfl (fun _ h => h) (Or.inr rfl) (fun _ _ => rfl)

set_option maxRecDepth 100000 in
set_option maxHeartbeats 4000000 in
theorem c_Model_place (l : Launch) (P : ks_P) (hP : ks_ok P) (c y u : Nat) (hy : y < 32) (hu : u < ks_W P) (a b : ks_M) (o : ks_O) : kc l P y_Model_place b_Model_place 4 (some .int) 0 [.ref (tk_ad (ks_G P) (12, 0, 0)), .int (nI c), .int (nI y), .int (nI u)] a b o (some (.int (nI (r_pj (ks_W P) c ((k_first (ks_S P) (ks_W P) y) + u))))) a b o := by
  have hn64 := ks_n64 hP
  have hT64 := ks_T64 hP
  refine tk_of hP.2.2.2.2.2 (by decide) rfl (Nat.le_of_ble_eq_true rfl) ?_
  intro p e s m below meth c0 X hlk hr hnm
  refine tk_bipush (v := 12) X d_Model_place_0 (by decide) ?_
  refine tk_iload_n X d_Model_place_2 rfl rfl ?_
  refine tk_imul X d_Model_place_3 ?_
  refine tk_iconst (v := 3) X d_Model_place_4 (by decide) ?_
  refine tk_iload_n X d_Model_place_5 rfl rfl ?_
  refine tk_aload_n X d_Model_place_6 rfl rfl ?_
  refine tk_get X (k := (12, 0, 0)) (dm := ks_dm P) (ks_d0 (by decide)) rfl hc_Model hi_Model 1 (by decide) m_Model_60 (v := .int _) rfl d_Model_place_7 ?_
  refine tk_irem X d_Model_place_10 (nI_ne0 (by rcases hP.2.2.1 with h | h | h <;> omega) (by rcases hP.2.2.1 with h | h | h <;> omega)) ?_
  refine tk_imul X d_Model_place_11 ?_
  refine tk_iadd X d_Model_place_12 ?_
  refine tk_iload_n X d_Model_place_13 rfl rfl ?_
  refine tk_iadd X d_Model_place_14 ?_
  exact tk_iret X hlk hr d_Model_place_15 (by rw [r_place hP hy hu]) (fun _ h => h) (Or.inr rfl) (fun _ _ => rfl)

section LP
variable {p : Program} {l : Launch} {e : Env} {R : Room} {s : State} {m : MethodId} {args : Array Value} {below : List Frame} {meth : Method} {c0 : Code} {P : ks_P} {cells slots : Nat} {Q : State → Prop}
set_option maxRecDepth 100000 in
set_option maxHeartbeats 4000000 in
theorem lp_Model_find (X : tk_X p m c0 s args (ks_G P) R_Model b_Model_find 6 WS) (hP : ks_ok P) {c y : Nat} (hc : c < ks_n P) (hy : y < 32) (a b : ks_M) (o : ks_O) (kend : ∀ t5, tk_go p l e (ks_rm 1) s m args below meth c0 (ks_G P) (ks_dm P) 6 0 0 Q (ks_sl P a b o) 54 [some (.ref (tk_ad (ks_G P) (12, 0, 0))), some (.int (nI c)), some (.int (nI y)), some (.int (r_int (ks_W P) c (r_find b c y (k_first (ks_S P) (ks_W P) y) (ks_W P)))), some (.int (nI (ks_W P))), t5] []) : ∀ (k u : Nat) (t5 : Option Value), u + k = ks_W P → tk_go p l e (ks_rm 1) s m args below meth c0 (ks_G P) (ks_dm P) 6 0 0 Q (ks_sl P a b o) 5 [some (.ref (tk_ad (ks_G P) (12, 0, 0))), some (.int (nI c)), some (.int (nI y)), some (.int (r_int (ks_W P) c (r_find b c y (k_first (ks_S P) (ks_W P) y) u))), some (.int (nI u)), t5] [] := by
  have hn64 := ks_n64 hP
  have hT64 := ks_T64 hP
  intro k
  induction k with
  | zero =>
    intro u t5 hu
    have hu2 : u = ks_W P := by omega
    subst hu2
    refine tk_iload X d_Model_find_5 rfl ?_
    refine tk_aload_n X d_Model_find_7 rfl rfl ?_
    refine tk_get X (k := (12, 0, 0)) (dm := ks_dm P) (ks_d0 (by decide)) rfl hc_Model hi_Model 2 (by decide) m_Model_63 (v := .int _) rfl d_Model_find_8 ?_
    refine tk_icmp_ge (tgt := 54) X d_Model_find_11 (by decide) (fun _ => ?_) (fun h => absurd (nI_le (Nat.le_refl _) (by have := hP.2.2.2.2.1; omega)) h)
    exact kend t5
  | succ k ih =>
    intro u t5 hu
    have hu2 : u < ks_W P := by omega
    have hF := k_first_le hP y
    have hj : (k_first (ks_S P) (ks_W P) y) + u < ks_T P := by omega
    refine tk_iload X d_Model_find_5 rfl ?_
    refine tk_aload_n X d_Model_find_7 rfl rfl ?_
    refine tk_get X (k := (12, 0, 0)) (dm := ks_dm P) (ks_d0 (by decide)) rfl hc_Model hi_Model 2 (by decide) m_Model_63 (v := .int _) rfl d_Model_find_8 ?_
    refine tk_icmp_ge (tgt := 54) X d_Model_find_11 (by decide) (fun h => absurd h (nI_ge hu2 (by have := hP.2.2.2.2.1; omega))) (fun _ => ?_)
    refine tk_aload_n X d_Model_find_14 rfl rfl ?_
    refine tk_iload_n X d_Model_find_15 rfl rfl ?_
    refine tk_iload_n X d_Model_find_16 rfl rfl ?_
    refine tk_iload X d_Model_find_17 rfl ?_
    refine tk_callV X (kb := (12, 0, 0)) (ks_d0 (by decide)) rfl hc_Model (c_Model_place l P hP c y u hy hu2 a b o) (ks_site (n := 3) mc_Model_place mi_Model (by decide +kernel) (by decide) (by decide)) m_Model_69 ms_Model_place mv_Model_place rfl (Nat.le_of_ble_eq_true rfl) ⟨Nat.le_of_ble_eq_true rfl, Nat.le_of_ble_eq_true rfl⟩ rfl d_Model_find_19 ?_
    refine tk_istore X d_Model_find_22 (by decide) rfl ?_
    refine tk_aload_n X d_Model_find_24 rfl rfl ?_
    refine tk_get X (k := (12, 0, 0)) (dm := ks_dm P) (ks_d0 (by decide)) rfl hc_Model hi_Model 15 (by decide) m_Model_38 (v := .ref (tk_ad (ks_G P) (22, 0, 0))) rfl d_Model_find_25 ?_
    refine tk_iload X d_Model_find_28 rfl ?_
    refine kr_iald X (f := 22) (i' := 0) (by decide) (by decide) rfl (by decide) rfl (r_pj_lt hP hc hj) (ks_vk_pj hP hj) rfl d_Model_find_30 ?_
    refine tk_if_eq (tgt := 48) X d_Model_find_31 (by decide) (fun h1 => ?_) (fun h1 => ?_)
    · skip
      refine tk_iinc (v := nI (u + 1)) X d_Model_find_48 rfl (q_inc u) (by decide) rfl ?_
      refine tk_goto (tgt := 5) X d_Model_find_51 (by decide) ?_
      have ih2 := ih (u + 1) (some (.int (nI (r_pj (ks_W P) c ((k_first (ks_S P) (ks_W P) y) + u))))) (by omega)
      rw [r_find, if_neg (fun q => q.1 h1)] at ih2
      exact ih2
    · skip
      refine tk_aload_n X d_Model_find_34 rfl rfl ?_
      refine tk_get X (k := (12, 0, 0)) (dm := ks_dm P) (ks_d0 (by decide)) rfl hc_Model hi_Model 16 (by decide) m_Model_41 (v := .ref (tk_ad (ks_G P) (23, 0, 0))) rfl d_Model_find_35 ?_
      refine tk_iload X d_Model_find_38 rfl ?_
      refine kr_iald X (f := 23) (i' := 1) (by decide) (by decide) rfl (by decide) rfl (r_pj_lt hP hc hj) (ks_vk_pj hP hj) rfl d_Model_find_40 ?_
      refine tk_iload_n X d_Model_find_41 rfl rfl ?_
      refine tk_icmp_ne (tgt := 48) X d_Model_find_42 (by decide) (fun h2 => ?_) (fun h2 => ?_)
      · skip
        refine tk_iinc (v := nI (u + 1)) X d_Model_find_48 rfl (q_inc u) (by decide) rfl ?_
        refine tk_goto (tgt := 5) X d_Model_find_51 (by decide) ?_
        have ih2 := ih (u + 1) (some (.int (nI (r_pj (ks_W P) c ((k_first (ks_S P) (ks_W P) y) + u))))) (by omega)
        rw [r_find, if_neg (fun q => h2 q.2)] at ih2
        exact ih2
      · skip
        refine tk_iload X d_Model_find_45 rfl ?_
        refine tk_istore_n X d_Model_find_47 rfl (by decide) rfl ?_
        refine tk_iinc (v := nI (u + 1)) X d_Model_find_48 rfl (q_inc u) (by decide) rfl ?_
        refine tk_goto (tgt := 5) X d_Model_find_51 (by decide) ?_
        have ih2 := ih (u + 1) (some (.int (nI (r_pj (ks_W P) c ((k_first (ks_S P) (ks_W P) y) + u))))) (by omega)
        rw [r_find, if_pos ⟨h1, h2⟩] at ih2
        exact ih2
end LP

set_option maxRecDepth 100000 in
set_option maxHeartbeats 4000000 in
theorem c_Model_find (l : Launch) (P : ks_P) (hP : ks_ok P) (c y : Nat) (hc : c < ks_n P) (hy : y < 32) (a b : ks_M) (o : ks_O) (hu : r_uniq b c (ks_T P)) : kc l P y_Model_find b_Model_find 6 (some .int) 1 [.ref (tk_ad (ks_G P) (12, 0, 0)), .int (nI c), .int (nI y)] a b o (some (.int (r_int (ks_W P) c (k_find b c y (ks_W P) (k_first (ks_S P) (ks_W P) y))))) a b o := by
  have hn64 := ks_n64 hP
  have hT64 := ks_T64 hP
  refine tk_of hP.2.2.2.2.2 (by decide) rfl (Nat.le_of_ble_eq_true rfl) ?_
  intro p e s m below meth c0 X hlk hr hnm
  refine tk_iconst (v := -1) X d_Model_find_0 (by decide) ?_
  refine tk_istore_n X d_Model_find_1 rfl (by decide) rfl ?_
  refine tk_iconst (v := 0) X d_Model_find_2 (by decide) ?_
  refine tk_istore X d_Model_find_3 (by decide) rfl ?_
  refine lp_Model_find X hP hc hy a b o (fun t5 => ?_) (ks_W P) 0 _ (by omega)
  refine tk_iload_n X d_Model_find_54 rfl rfl ?_
  exact tk_iret X hlk hr d_Model_find_55 (by rw [r_find_eq hu (ks_W P) (k_first_le hP y)]) (fun _ h => h) (Or.inr rfl) (fun _ _ => rfl)

section LP
variable {p : Program} {l : Launch} {e : Env} {R : Room} {s : State} {m : MethodId} {args : Array Value} {below : List Frame} {meth : Method} {c0 : Code} {P : ks_P} {cells slots : Nat} {Q : State → Prop}
set_option maxRecDepth 100000 in
set_option maxHeartbeats 4000000 in
theorem lp_Model_room1 (X : tk_X p m c0 s args (ks_G P) R_Model b_Model_room 6 WS) (hP : ks_ok P) {c y : Nat} (hc : c < ks_n P) (hy : y < 32) (a b : ks_M) (o : ks_O) {r : Option Nat} (kend : ∀ t5, tk_go p l e (ks_rm 1) s m args below meth c0 (ks_G P) (ks_dm P) 6 0 0 Q (ks_sl P a b o) 44 [some (.ref (tk_ad (ks_G P) (12, 0, 0))), some (.int (nI c)), some (.int (nI y)), some (.int (r_int (ks_W P) c r)), some (.int (nI 0 - 1)), t5] []) : ∀ (i : Nat) (q : Option Nat) (t5 : Option Value), i ≤ ks_W P → r_dn b c (k_first (ks_S P) (ks_W P) y) i q = r → tk_go p l e (ks_rm 1) s m args below meth c0 (ks_G P) (ks_dm P) 6 0 0 Q (ks_sl P a b o) 10 [some (.ref (tk_ad (ks_G P) (12, 0, 0))), some (.int (nI c)), some (.int (nI y)), some (.int (r_int (ks_W P) c q)), some (.int (nI i - 1)), t5] [] := by
  have hn64 := ks_n64 hP
  have hT64 := ks_T64 hP
  intro k
  induction k with
  | zero =>
    intro q t5 hi hk
    have hk2 : q = r := hk
    subst hk2
    refine tk_iload X d_Model_room_10 rfl ?_
    refine tk_if_lt (tgt := 44) X d_Model_room_12 (by decide) (fun _ => ?_) (fun h => absurd (by decide) h)
    exact kend t5
  | succ k ih =>
    intro q t5 hi hk
    have hk3 : k < ks_W P := by omega
    have hF := k_first_le hP y
    have hj : (k_first (ks_S P) (ks_W P) y) + k < ks_T P := by omega
    have e0 : nI (k + 1) - 1 = nI k := nI_pred k
    rw [e0]
    refine tk_iload X d_Model_room_10 rfl ?_
    refine tk_if_lt (tgt := 44) X d_Model_room_12 (by decide) (fun h => absurd h (nI_pos (by omega))) (fun _ => ?_)
    refine tk_aload_n X d_Model_room_15 rfl rfl ?_
    refine tk_iload_n X d_Model_room_16 rfl rfl ?_
    refine tk_iload_n X d_Model_room_17 rfl rfl ?_
    refine tk_iload X d_Model_room_18 rfl ?_
    refine tk_callV X (kb := (12, 0, 0)) (ks_d0 (by decide)) rfl hc_Model (c_Model_place l P hP c y k hy hk3 a b o) (ks_site (n := 3) mc_Model_place mi_Model (by decide +kernel) (by decide) (by decide)) m_Model_69 ms_Model_place mv_Model_place rfl (Nat.le_of_ble_eq_true rfl) ⟨Nat.le_of_ble_eq_true rfl, Nat.le_of_ble_eq_true rfl⟩ rfl d_Model_room_20 ?_
    refine tk_istore X d_Model_room_23 (by decide) rfl ?_
    refine tk_aload_n X d_Model_room_25 rfl rfl ?_
    refine tk_get X (k := (12, 0, 0)) (dm := ks_dm P) (ks_d0 (by decide)) rfl hc_Model hi_Model 15 (by decide) m_Model_38 (v := .ref (tk_ad (ks_G P) (22, 0, 0))) rfl d_Model_room_26 ?_
    refine tk_iload X d_Model_room_29 rfl ?_
    refine kr_iald X (f := 22) (i' := 0) (by decide) (by decide) rfl (by decide) rfl (r_pj_lt hP hc hj) (ks_vk_pj hP hj) rfl d_Model_room_31 ?_
    refine tk_if_ne (tgt := 38) X d_Model_room_32 (by decide) (fun h1 => ?_) (fun h1 => ?_)
    · skip
      refine tk_iinc (v := nI k - 1) X d_Model_room_38 rfl (q_dec _) (by decide) rfl ?_
      refine tk_goto (tgt := 10) X d_Model_room_41 (by decide) ?_
      exact ih q _ (by omega) (by rw [r_dn, if_neg h1] at hk; exact hk)
    · skip
      refine tk_iload X d_Model_room_35 rfl ?_
      refine tk_istore_n X d_Model_room_37 rfl (by decide) rfl ?_
      refine tk_iinc (v := nI k - 1) X d_Model_room_38 rfl (q_dec _) (by decide) rfl ?_
      refine tk_goto (tgt := 10) X d_Model_room_41 (by decide) ?_
      exact ih (some ((k_first (ks_S P) (ks_W P) y) + k)) _ (by omega) (by rw [r_dn, if_pos h1] at hk; exact hk)
end LP

section LP
variable {p : Program} {l : Launch} {e : Env} {R : Room} {s : State} {m : MethodId} {args : Array Value} {below : List Frame} {meth : Method} {c0 : Code} {P : ks_P} {cells slots : Nat} {Q : State → Prop}
set_option maxRecDepth 100000 in
set_option maxHeartbeats 4000000 in
theorem lp_Model_room2 (X : tk_X p m c0 s args (ks_G P) R_Model b_Model_room 6 WS) (hP : ks_ok P) {c y : Nat} (hc : c < ks_n P) (hy : y < 32) (a b : ks_M) (o : ks_O) {r : Option Nat} (kend : ∀ t5, tk_go p l e (ks_rm 1) s m args below meth c0 (ks_G P) (ks_dm P) 6 0 0 Q (ks_sl P a b o) 113 [some (.ref (tk_ad (ks_G P) (12, 0, 0))), some (.int (nI c)), some (.int (nI y)), some (.int (r_int (ks_W P) c r)), some (.int (nI (ks_W P))), t5] []) : ∀ (k u : Nat) (q : Option Nat) (t5 : Option Value), (∀ i, q = some i → i < ks_T P) → u + k = ks_W P → r_up b c k ((k_first (ks_S P) (ks_W P) y) + u) q = r → tk_go p l e (ks_rm 1) s m args below meth c0 (ks_G P) (ks_dm P) 6 0 0 Q (ks_sl P a b o) 54 [some (.ref (tk_ad (ks_G P) (12, 0, 0))), some (.int (nI c)), some (.int (nI y)), some (.int (r_int (ks_W P) c q)), some (.int (nI u)), t5] [] := by
  have hn64 := ks_n64 hP
  have hT64 := ks_T64 hP
  intro k
  induction k with
  | zero =>
    intro u q t5 hq hu hk
    have hu2 : u = ks_W P := by omega
    subst hu2
    have hk2 : q = r := hk
    subst hk2
    refine tk_iload X d_Model_room_54 rfl ?_
    refine tk_aload_n X d_Model_room_56 rfl rfl ?_
    refine tk_get X (k := (12, 0, 0)) (dm := ks_dm P) (ks_d0 (by decide)) rfl hc_Model hi_Model 2 (by decide) m_Model_63 (v := .int _) rfl d_Model_room_57 ?_
    refine tk_icmp_ge (tgt := 113) X d_Model_room_60 (by decide) (fun _ => ?_) (fun h => absurd (nI_le (Nat.le_refl _) (by have := hP.2.2.2.2.1; omega)) h)
    exact kend t5
  | succ k ih =>
    intro u q t5 hq hu hk
    have hu2 : u < ks_W P := by omega
    have hF := k_first_le hP y
    have hj : (k_first (ks_S P) (ks_W P) y) + u < ks_T P := by omega
    cases q with
    | none =>
      refine tk_iload X d_Model_room_54 rfl ?_
      refine tk_aload_n X d_Model_room_56 rfl rfl ?_
      refine tk_get X (k := (12, 0, 0)) (dm := ks_dm P) (ks_d0 (by decide)) rfl hc_Model hi_Model 2 (by decide) m_Model_63 (v := .int _) rfl d_Model_room_57 ?_
      refine tk_icmp_ge (tgt := 113) X d_Model_room_60 (by decide) (fun h => absurd h (nI_ge hu2 (by have := hP.2.2.2.2.1; omega))) (fun _ => ?_)
      refine tk_aload_n X d_Model_room_63 rfl rfl ?_
      refine tk_iload_n X d_Model_room_64 rfl rfl ?_
      refine tk_iload_n X d_Model_room_65 rfl rfl ?_
      refine tk_iload X d_Model_room_66 rfl ?_
      refine tk_callV X (kb := (12, 0, 0)) (ks_d0 (by decide)) rfl hc_Model (c_Model_place l P hP c y u hy hu2 a b o) (ks_site (n := 3) mc_Model_place mi_Model (by decide +kernel) (by decide) (by decide)) m_Model_69 ms_Model_place mv_Model_place rfl (Nat.le_of_ble_eq_true rfl) ⟨Nat.le_of_ble_eq_true rfl, Nat.le_of_ble_eq_true rfl⟩ rfl d_Model_room_68 ?_
      refine tk_istore X d_Model_room_71 (by decide) rfl ?_
      refine tk_aload_n X d_Model_room_73 rfl rfl ?_
      refine tk_get X (k := (12, 0, 0)) (dm := ks_dm P) (ks_d0 (by decide)) rfl hc_Model hi_Model 17 (by decide) m_Model_44 (v := .ref (tk_ad (ks_G P) (24, 0, 0))) rfl d_Model_room_74 ?_
      refine tk_iload X d_Model_room_77 rfl ?_
      refine kr_iald X (f := 24) (i' := 2) (by decide) (by decide) rfl (by decide) rfl (r_pj_lt hP hc hj) (ks_vk_pj hP hj) rfl d_Model_room_79 ?_
      refine tk_if_ne (tgt := 107) X d_Model_room_80 (by decide) (fun h1 => ?_) (fun h1 => ?_)
      · skip
        refine tk_iinc (v := nI (u + 1)) X d_Model_room_107 rfl (q_inc u) (by decide) rfl ?_
        refine tk_goto (tgt := 54) X d_Model_room_110 (by decide) ?_
        exact ih (u + 1) none _ hq (by omega) (by rw [r_up, if_neg (fun z => h1 z.1)] at hk; exact hk)
      · skip
        refine tk_iload_n X d_Model_room_83 rfl rfl ?_
        refine tk_iconst (v := -1) X d_Model_room_84 (by decide) ?_
        refine tk_icmp_eq (tgt := 104) X d_Model_room_85 (by decide) (fun _ => ?_) (fun h => absurd rfl h)
        refine tk_iload X d_Model_room_104 rfl ?_
        refine tk_istore_n X d_Model_room_106 rfl (by decide) rfl ?_
        refine tk_iinc (v := nI (u + 1)) X d_Model_room_107 rfl (q_inc u) (by decide) rfl ?_
        refine tk_goto (tgt := 54) X d_Model_room_110 (by decide) ?_
        exact ih (u + 1) (some ((k_first (ks_S P) (ks_W P) y) + u)) _ (fun i2 e2 => by cases e2; exact hj) (by omega) (by rw [r_up, if_pos ⟨h1, rfl⟩] at hk; exact hk)
    | some i =>
      have hi : i < ks_T P := hq i rfl
      refine tk_iload X d_Model_room_54 rfl ?_
      refine tk_aload_n X d_Model_room_56 rfl rfl ?_
      refine tk_get X (k := (12, 0, 0)) (dm := ks_dm P) (ks_d0 (by decide)) rfl hc_Model hi_Model 2 (by decide) m_Model_63 (v := .int _) rfl d_Model_room_57 ?_
      refine tk_icmp_ge (tgt := 113) X d_Model_room_60 (by decide) (fun h => absurd h (nI_ge hu2 (by have := hP.2.2.2.2.1; omega))) (fun _ => ?_)
      refine tk_aload_n X d_Model_room_63 rfl rfl ?_
      refine tk_iload_n X d_Model_room_64 rfl rfl ?_
      refine tk_iload_n X d_Model_room_65 rfl rfl ?_
      refine tk_iload X d_Model_room_66 rfl ?_
      refine tk_callV X (kb := (12, 0, 0)) (ks_d0 (by decide)) rfl hc_Model (c_Model_place l P hP c y u hy hu2 a b o) (ks_site (n := 3) mc_Model_place mi_Model (by decide +kernel) (by decide) (by decide)) m_Model_69 ms_Model_place mv_Model_place rfl (Nat.le_of_ble_eq_true rfl) ⟨Nat.le_of_ble_eq_true rfl, Nat.le_of_ble_eq_true rfl⟩ rfl d_Model_room_68 ?_
      refine tk_istore X d_Model_room_71 (by decide) rfl ?_
      refine tk_aload_n X d_Model_room_73 rfl rfl ?_
      refine tk_get X (k := (12, 0, 0)) (dm := ks_dm P) (ks_d0 (by decide)) rfl hc_Model hi_Model 17 (by decide) m_Model_44 (v := .ref (tk_ad (ks_G P) (24, 0, 0))) rfl d_Model_room_74 ?_
      refine tk_iload X d_Model_room_77 rfl ?_
      refine kr_iald X (f := 24) (i' := 2) (by decide) (by decide) rfl (by decide) rfl (r_pj_lt hP hc hj) (ks_vk_pj hP hj) rfl d_Model_room_79 ?_
      refine tk_if_ne (tgt := 107) X d_Model_room_80 (by decide) (fun h1 => ?_) (fun h1 => ?_)
      · skip
        refine tk_iinc (v := nI (u + 1)) X d_Model_room_107 rfl (q_inc u) (by decide) rfl ?_
        refine tk_goto (tgt := 54) X d_Model_room_110 (by decide) ?_
        exact ih (u + 1) (some i) _ hq (by omega) (by rw [r_up, if_neg (fun z => h1 z.1)] at hk; exact hk)
      · skip
        refine tk_iload_n X d_Model_room_83 rfl rfl ?_
        refine tk_iconst (v := -1) X d_Model_room_84 (by decide) ?_
        refine tk_icmp_eq (tgt := 104) X d_Model_room_85 (by decide) (fun h => absurd h (nI_nm1 (Nat.lt_trans (r_pj_lt hP hc hi) (by decide)))) (fun _ => ?_)
        refine tk_aload_n X d_Model_room_88 rfl rfl ?_
        refine tk_get X (k := (12, 0, 0)) (dm := ks_dm P) (ks_d0 (by decide)) rfl hc_Model hi_Model 20 (by decide) m_Model_53 (v := .ref (tk_ad (ks_G P) (27, 0, 0))) rfl d_Model_room_89 ?_
        refine tk_iload X d_Model_room_92 rfl ?_
        refine kr_iald X (f := 27) (i' := 5) (by decide) (by decide) rfl (by decide) rfl (r_pj_lt hP hc hj) (ks_vk_pj hP hj) rfl d_Model_room_94 ?_
        refine tk_aload_n X d_Model_room_95 rfl rfl ?_
        refine tk_get X (k := (12, 0, 0)) (dm := ks_dm P) (ks_d0 (by decide)) rfl hc_Model hi_Model 20 (by decide) m_Model_53 (v := .ref (tk_ad (ks_G P) (27, 0, 0))) rfl d_Model_room_96 ?_
        refine tk_iload_n X d_Model_room_99 rfl rfl ?_
        refine kr_iald X (f := 27) (i' := 5) (by decide) (by decide) rfl (by decide) rfl (r_pj_lt hP hc hi) (ks_vk_pj hP hi) rfl d_Model_room_100 ?_
        refine tk_icmp_ge (tgt := 107) X d_Model_room_101 (by decide) (fun h2 => ?_) (fun h2 => ?_)
        · skip
          refine tk_iinc (v := nI (u + 1)) X d_Model_room_107 rfl (q_inc u) (by decide) rfl ?_
          refine tk_goto (tgt := 54) X d_Model_room_110 (by decide) ?_
          exact ih (u + 1) (some i) _ hq (by omega) (by rw [r_up, if_neg (fun z => absurd (of_decide_eq_true z.2) (Int32.not_lt.mpr h2))] at hk; exact hk)
        · skip
          refine tk_iload X d_Model_room_104 rfl ?_
          refine tk_istore_n X d_Model_room_106 rfl (by decide) rfl ?_
          refine tk_iinc (v := nI (u + 1)) X d_Model_room_107 rfl (q_inc u) (by decide) rfl ?_
          refine tk_goto (tgt := 54) X d_Model_room_110 (by decide) ?_
          exact ih (u + 1) (some ((k_first (ks_S P) (ks_W P) y) + u)) _ (fun i2 e2 => by cases e2; exact hj) (by omega) (by rw [r_up, if_pos ⟨h1, decide_eq_true (Int32.not_le.mp h2)⟩] at hk; exact hk)
end LP

set_option maxRecDepth 100000 in
set_option maxHeartbeats 4000000 in
theorem c_Model_room (l : Launch) (P : ks_P) (hP : ks_ok P) (c y : Nat) (hc : c < ks_n P) (hy : y < 32) (a b : ks_M) (o : ks_O) : kc l P y_Model_room b_Model_room 6 (some .int) 1 [.ref (tk_ad (ks_G P) (12, 0, 0)), .int (nI c), .int (nI y)] a b o (some (.int (r_int (ks_W P) c (k_room b c (ks_W P) (k_first (ks_S P) (ks_W P) y) none)))) a b o := by
  have hn64 := ks_n64 hP
  have hT64 := ks_T64 hP
  refine tk_of hP.2.2.2.2.2 (by decide) rfl (Nat.le_of_ble_eq_true rfl) ?_
  intro p e s m below meth c0 X hlk hr hnm
  refine tk_iconst (v := -1) X d_Model_room_0 (by decide) ?_
  refine tk_istore_n X d_Model_room_1 rfl (by decide) rfl ?_
  refine tk_aload_n X d_Model_room_2 rfl rfl ?_
  refine tk_get X (k := (12, 0, 0)) (dm := ks_dm P) (ks_d0 (by decide)) rfl hc_Model hi_Model 2 (by decide) m_Model_63 (v := .int _) rfl d_Model_room_3 ?_
  refine tk_iconst (v := 1) X d_Model_room_6 (by decide) ?_
  refine tk_isub X d_Model_room_7 ?_
  refine tk_istore X d_Model_room_8 (by decide) rfl ?_
  refine lp_Model_room1 X hP hc hy a b o (r := r_dn b c (k_first (ks_S P) (ks_W P) y) (ks_W P) none) (fun t5 => ?_) (ks_W P) none _ (Nat.le_refl _) rfl
  cases hr1 : r_dn b c (k_first (ks_S P) (ks_W P) y) (ks_W P) none with
  | none =>
    refine tk_iload_n X d_Model_room_44 rfl rfl ?_
    refine tk_iconst (v := -1) X d_Model_room_45 (by decide) ?_
    refine tk_icmp_eq (tgt := 51) X d_Model_room_46 (by decide) (fun _ => ?_) (fun h => absurd rfl h)
    refine tk_iconst (v := 0) X d_Model_room_51 (by decide) ?_
    refine tk_istore X d_Model_room_52 (by decide) rfl ?_
    refine lp_Model_room2 X hP hc hy a b o (r := r_up b c (ks_W P) (k_first (ks_S P) (ks_W P) y) none) (fun t6 => ?_) (ks_W P) 0 none _ (fun i h => by cases h) (by omega) rfl
    refine tk_iload_n X d_Model_room_113 rfl rfl ?_
    exact tk_iret X hlk hr d_Model_room_114 (by rw [r_room0 hr1]) (fun _ h => h) (Or.inr rfl) (fun _ _ => rfl)
  | some j =>
    refine tk_iload_n X d_Model_room_44 rfl rfl ?_
    refine tk_iconst (v := -1) X d_Model_room_45 (by decide) ?_
    refine tk_icmp_eq (tgt := 51) X d_Model_room_46 (by decide) (fun h => absurd h (nI_nm1 (Nat.lt_trans (r_pj_lt hP hc (k_room_T hP (r_room1 hr1))) (by decide)))) (fun _ => ?_)
    refine tk_iload_n X d_Model_room_49 rfl rfl ?_
    exact tk_iret X hlk hr d_Model_room_50 (by rw [r_room1 hr1]) (fun _ h => h) (Or.inr rfl) (fun _ _ => rfl)

set_option maxRecDepth 100000 in
set_option maxHeartbeats 4000000 in
theorem c_Model_toMemory (l : Launch) (P : ks_P) (hP : ks_ok P) (c j : Nat) (hc : c < ks_n P) (hj : j < ks_T P) (a b : ks_M) (o : ks_O) (hl : q_lin (b (7, c, j) 1)) : kc l P y_Model_toMemory b_Model_toMemory 2 none 0 [.ref (tk_ad (ks_G P) (12, 0, 0)), .int (nI (r_pj (ks_W P) c j))] a b o (none) a (k_keep b c j) o := by
  have hn64 := ks_n64 hP
  have hT64 := ks_T64 hP
  have hl2 : q_lin (k_keep1 b c j (7, c, j) 1) := by rw [k_keep1_7]; exact hl
  refine tk_of hP.2.2.2.2.2 (by decide) rfl (Nat.le_of_ble_eq_true rfl) ?_
  intro p e s m below meth c0 X hlk hr hnm
  refine tk_aload_n X d_Model_toMemory_0 rfl rfl ?_
  refine tk_get X (k := (12, 0, 0)) (dm := ks_dm P) (ks_d0 (by decide)) rfl hc_Model hi_Model 6 (by decide) m_Model_7 (v := .ref (tk_ad (ks_G P) (13, 0, 0))) rfl d_Model_toMemory_1 ?_
  refine tk_iconst (v := 2) X d_Model_toMemory_4 (by decide) ?_
  refine tk_aload_n X d_Model_toMemory_5 rfl rfl ?_
  refine tk_get X (k := (12, 0, 0)) (dm := ks_dm P) (ks_d0 (by decide)) rfl hc_Model hi_Model 16 (by decide) m_Model_41 (v := .ref (tk_ad (ks_G P) (23, 0, 0))) rfl d_Model_toMemory_6 ?_
  refine tk_iload_n X d_Model_toMemory_9 rfl rfl ?_
  refine kr_iald X (f := 23) (i' := 1) (by decide) (by decide) rfl (by decide) rfl (r_pj_lt hP hc hj) (ks_vk_pj hP hj) rfl d_Model_toMemory_10 ?_
  refine tk_imul X d_Model_toMemory_11 ?_
  refine tk_aload_n X d_Model_toMemory_12 rfl rfl ?_
  refine tk_get X (k := (12, 0, 0)) (dm := ks_dm P) (ks_d0 (by decide)) rfl hc_Model hi_Model 18 (by decide) m_Model_47 (v := .ref (tk_ad (ks_G P) (25, 0, 0))) rfl d_Model_toMemory_13 ?_
  refine tk_iload_n X d_Model_toMemory_16 rfl rfl ?_
  refine kr_iald X (f := 25) (i' := 3) (by decide) (by decide) rfl (by decide) rfl (r_pj_lt hP hc hj) (ks_vk_pj hP hj) rfl d_Model_toMemory_17 ?_
  refine kr_iast X hP (f := 13) (i' := (q_ix ((2 * b (7, c, j) 1) &&& 63))) (k' := (2, 0, 0)) (by decide) (by decide) rfl (by decide) (q_2x hl).1 (q_l63 _) rfl rfl d_Model_toMemory_18 ?_
  refine tk_aload_n X d_Model_toMemory_19 rfl rfl ?_
  refine tk_get X (k := (12, 0, 0)) (dm := ks_dm P) (ks_d0 (by decide)) rfl hc_Model hi_Model 6 (by decide) m_Model_7 (v := .ref (tk_ad (ks_G P) (13, 0, 0))) rfl d_Model_toMemory_20 ?_
  refine tk_iconst (v := 2) X d_Model_toMemory_23 (by decide) ?_
  refine tk_aload_n X d_Model_toMemory_24 rfl rfl ?_
  refine tk_get X (k := (12, 0, 0)) (dm := ks_dm P) (ks_d0 (by decide)) rfl hc_Model hi_Model 16 (by decide) m_Model_41 (v := .ref (tk_ad (ks_G P) (23, 0, 0))) rfl d_Model_toMemory_25 ?_
  refine tk_iload_n X d_Model_toMemory_28 rfl rfl ?_
  refine kr_iald X (f := 23) (i' := 1) (by decide) (by decide) rfl (by decide) rfl (r_pj_lt hP hc hj) (ks_vk_pj hP hj) rfl d_Model_toMemory_29 ?_
  refine tk_imul X d_Model_toMemory_30 ?_
  refine tk_iconst (v := 1) X d_Model_toMemory_31 (by decide) ?_
  refine tk_iadd X d_Model_toMemory_32 ?_
  refine tk_aload_n X d_Model_toMemory_33 rfl rfl ?_
  refine tk_get X (k := (12, 0, 0)) (dm := ks_dm P) (ks_d0 (by decide)) rfl hc_Model hi_Model 19 (by decide) m_Model_50 (v := .ref (tk_ad (ks_G P) (26, 0, 0))) rfl d_Model_toMemory_34 ?_
  refine tk_iload_n X d_Model_toMemory_37 rfl rfl ?_
  refine kr_iald X (f := 26) (i' := 4) (by decide) (by decide) rfl (by decide) rfl (r_pj_lt hP hc hj) (ks_vk_pj hP hj) rfl d_Model_toMemory_38 ?_
  refine kr_iast X hP (f := 13) (i' := (q_ix ((2 * k_keep1 b c j (7, c, j) 1 + 1) &&& 63))) (k' := (2, 0, 0)) (by decide) (by decide) rfl (by decide) (q_2x hl2).2 (q_l63 _) rfl rfl d_Model_toMemory_39 ?_
  exact tk_vret X hlk hr d_Model_toMemory_40 rfl (fun _ h => h) (Or.inr rfl) (fun _ _ => rfl)

section LP
variable {p : Program} {l : Launch} {e : Env} {R : Room} {s : State} {m : MethodId} {args : Array Value} {below : List Frame} {meth : Method} {c0 : Code} {P : ks_P} {cells slots : Nat} {Q : State → Prop}
set_option maxRecDepth 100000 in
set_option maxHeartbeats 4000000 in
theorem lp_Model_abort1 (X : tk_X p m c0 s args (ks_G P) R_Model b_Model_abort 5 WS) (hP : ks_ok P) {c q : Nat} (hc : c < ks_n P) (v : Int32) (a b : ks_M) (o : ks_O) (kend : tk_go p l e R s m args below meth c0 (ks_G P) (ks_dm P) 5 cells slots Q (ks_sl P a (r_ab (ks_S P) (ks_W P) b c 12) o) 52 [some (.ref (tk_ad (ks_G P) (12, 0, 0))), some (.int (nI c)), some (.int (nI q)), some (.int v), some (.int (nI (12 * c + 12)))] []) : ∀ (k r : Nat), r + k = 12 → tk_go p l e R s m args below meth c0 (ks_G P) (ks_dm P) 5 cells slots Q (ks_sl P a (r_ab (ks_S P) (ks_W P) b c r) o) 6 [some (.ref (tk_ad (ks_G P) (12, 0, 0))), some (.int (nI c)), some (.int (nI q)), some (.int v), some (.int (nI (12 * c + r)))] [] := by
  have hn64 := ks_n64 hP
  have hT64 := ks_T64 hP
  intro k
  induction k with
  | zero =>
    intro r hr
    have hr2 : r = 12 := by omega
    subst hr2
    have hc3 : c < 3 := by have := hP.2.1; omega
    refine tk_iload X d_Model_abort_6 rfl ?_
    refine tk_bipush (v := 12) X d_Model_abort_8 (by decide) ?_
    refine tk_iload_n X d_Model_abort_10 rfl rfl ?_
    refine tk_imul X d_Model_abort_11 ?_
    refine tk_bipush (v := 12) X d_Model_abort_12 (by decide) ?_
    refine tk_iadd X d_Model_abort_14 ?_
    refine tk_icmp_ge (tgt := 52) X d_Model_abort_15 (by decide) (fun _ => ?_) (fun h => absurd (by rw [show (12 : Int32) = nI 12 from rfl, q_mul]; exact nI_le (Nat.le_refl _) (by omega)) h)
    exact kend
  | succ k ih =>
    intro r hr
    have hr2 : r < 12 := by omega
    have hc3 : c < 3 := by have := hP.2.1; omega
    refine tk_iload X d_Model_abort_6 rfl ?_
    refine tk_bipush (v := 12) X d_Model_abort_8 (by decide) ?_
    refine tk_iload_n X d_Model_abort_10 rfl rfl ?_
    refine tk_imul X d_Model_abort_11 ?_
    refine tk_bipush (v := 12) X d_Model_abort_12 (by decide) ?_
    refine tk_iadd X d_Model_abort_14 ?_
    refine tk_icmp_ge (tgt := 52) X d_Model_abort_15 (by decide) (fun h => absurd h (by rw [show (12 : Int32) = nI 12 from rfl, q_mul]; exact nI_ge (by omega) (by omega))) (fun _ => ?_)
    refine tk_aload_n X d_Model_abort_18 rfl rfl ?_
    refine tk_get X (k := (12, 0, 0)) (dm := ks_dm P) (ks_d0 (by decide)) rfl hc_Model hi_Model 17 (by decide) m_Model_44 (v := .ref (tk_ad (ks_G P) (24, 0, 0))) rfl d_Model_abort_19 ?_
    refine tk_iload X d_Model_abort_22 rfl ?_
    refine kr_iald X (f := 24) (i' := 2) (by decide) (by decide) rfl (by decide) rfl (by omega) (v12k _ _ hr2) rfl d_Model_abort_24 ?_
    refine tk_iconst (v := 2) X d_Model_abort_25 (by decide) ?_
    refine tk_iand X d_Model_abort_26 ?_
    refine tk_if_eq (tgt := 38) X d_Model_abort_27 (by decide) (fun h1 => ?_) (fun h1 => ?_)
    · skip
      refine tk_aload_n X d_Model_abort_38 rfl rfl ?_
      refine tk_get X (k := (12, 0, 0)) (dm := ks_dm P) (ks_d0 (by decide)) rfl hc_Model hi_Model 17 (by decide) m_Model_44 (v := .ref (tk_ad (ks_G P) (24, 0, 0))) rfl d_Model_abort_39 ?_
      refine tk_iload X d_Model_abort_42 rfl ?_
      refine tk_iconst (v := 0) X d_Model_abort_44 (by decide) ?_
      refine kr_iast X hP (f := 24) (i' := 2) (by decide) (by decide) rfl (by decide) rfl (by omega) (v12k _ _ hr2) rfl d_Model_abort_45 ?_
      refine tk_iinc (v := nI (12 * c + (r + 1))) X d_Model_abort_46 rfl (q_inc _) (by decide) rfl ?_
      refine tk_goto (tgt := 6) X d_Model_abort_49 (by decide) ?_
      have e1 : r_ab1 (ks_S P) (ks_W P) (r_ab (ks_S P) (ks_W P) b c r) c r = _ := if_pos h1
      have ih2 := ih (r + 1) (by omega)
      rw [show r_ab (ks_S P) (ks_W P) b c (r + 1) = _ from by rw [r_ab, e1]] at ih2
      exact ih2
    · skip
      refine tk_aload_n X d_Model_abort_30 rfl rfl ?_
      refine tk_get X (k := (12, 0, 0)) (dm := ks_dm P) (ks_d0 (by decide)) rfl hc_Model hi_Model 15 (by decide) m_Model_38 (v := .ref (tk_ad (ks_G P) (22, 0, 0))) rfl d_Model_abort_31 ?_
      refine tk_iload X d_Model_abort_34 rfl ?_
      refine tk_iconst (v := 0) X d_Model_abort_36 (by decide) ?_
      refine kr_iast X hP (f := 22) (i' := 0) (by decide) (by decide) rfl (by decide) rfl (by omega) (v12k _ _ hr2) rfl d_Model_abort_37 ?_
      refine tk_aload_n X d_Model_abort_38 rfl rfl ?_
      refine tk_get X (k := (12, 0, 0)) (dm := ks_dm P) (ks_d0 (by decide)) rfl hc_Model hi_Model 17 (by decide) m_Model_44 (v := .ref (tk_ad (ks_G P) (24, 0, 0))) rfl d_Model_abort_39 ?_
      refine tk_iload X d_Model_abort_42 rfl ?_
      refine tk_iconst (v := 0) X d_Model_abort_44 (by decide) ?_
      refine kr_iast X hP (f := 24) (i' := 2) (by decide) (by decide) rfl (by decide) rfl (by omega) (v12k _ _ hr2) rfl d_Model_abort_45 ?_
      refine tk_iinc (v := nI (12 * c + (r + 1))) X d_Model_abort_46 rfl (q_inc _) (by decide) rfl ?_
      refine tk_goto (tgt := 6) X d_Model_abort_49 (by decide) ?_
      have e1 : r_ab1 (ks_S P) (ks_W P) (r_ab (ks_S P) (ks_W P) b c r) c r = _ := if_neg h1
      have ih2 := ih (r + 1) (by omega)
      rw [show r_ab (ks_S P) (ks_W P) b c (r + 1) = _ from by rw [r_ab, e1]] at ih2
      exact ih2
end LP

section LP
variable {p : Program} {l : Launch} {e : Env} {R : Room} {s : State} {m : MethodId} {args : Array Value} {below : List Frame} {meth : Method} {c0 : Code} {P : ks_P} {cells slots : Nat} {Q : State → Prop}
set_option maxRecDepth 100000 in
set_option maxHeartbeats 4000000 in
theorem lp_Model_abort2 (X : tk_X p m c0 s args (ks_G P) R_Model b_Model_abort 5 WS) (hP : ks_ok P) {c q : Nat} (hc : c < ks_n P) (v : Int32) (a b : ks_M) (o : ks_O) (kend : tk_go p l e R s m args below meth c0 (ks_G P) (ks_dm P) 5 cells slots Q (ks_sl P a (r_cp b c 8) o) 92 [some (.ref (tk_ad (ks_G P) (12, 0, 0))), some (.int (nI c)), some (.int (nI q)), some (.int v), some (.int (nI 8))] []) : ∀ (k r : Nat), r + k = 8 → tk_go p l e R s m args below meth c0 (ks_G P) (ks_dm P) 5 cells slots Q (ks_sl P a (r_cp b c r) o) 55 [some (.ref (tk_ad (ks_G P) (12, 0, 0))), some (.int (nI c)), some (.int (nI q)), some (.int v), some (.int (nI r))] [] := by
  have hn64 := ks_n64 hP
  have hT64 := ks_T64 hP
  intro k
  induction k with
  | zero =>
    intro r hr
    have hr2 : r = 8 := by omega
    subst hr2
    have hc3 : c < 3 := by have := hP.2.1; omega
    refine tk_iload X d_Model_abort_55 rfl ?_
    refine tk_bipush (v := 8) X d_Model_abort_57 (by decide) ?_
    refine tk_icmp_ge (tgt := 92) X d_Model_abort_59 (by decide) (fun _ => ?_) (fun h => absurd (nI_le (Nat.le_refl 8) (by decide)) h)
    exact kend
  | succ k ih =>
    intro r hr
    have hr2 : r < 8 := by omega
    have hc3 : c < 3 := by have := hP.2.1; omega
    refine tk_iload X d_Model_abort_55 rfl ?_
    refine tk_bipush (v := 8) X d_Model_abort_57 (by decide) ?_
    refine tk_icmp_ge (tgt := 92) X d_Model_abort_59 (by decide) (fun h => absurd h (nI_ge hr2 (by decide))) (fun _ => ?_)
    refine tk_aload_n X d_Model_abort_62 rfl rfl ?_
    refine tk_get X (k := (12, 0, 0)) (dm := ks_dm P) (ks_d0 (by decide)) rfl hc_Model hi_Model 7 (by decide) m_Model_13 (v := .ref (tk_ad (ks_G P) (14, 0, 0))) rfl d_Model_abort_63 ?_
    refine tk_bipush (v := 8) X d_Model_abort_66 (by decide) ?_
    refine tk_iload_n X d_Model_abort_68 rfl rfl ?_
    refine tk_imul X d_Model_abort_69 ?_
    refine tk_iload X d_Model_abort_70 rfl ?_
    refine tk_iadd X d_Model_abort_72 ?_
    refine tk_aload_n X d_Model_abort_73 rfl rfl ?_
    refine tk_get X (k := (12, 0, 0)) (dm := ks_dm P) (ks_d0 (by decide)) rfl hc_Model hi_Model 8 (by decide) m_Model_16 (v := .ref (tk_ad (ks_G P) (15, 0, 0))) rfl d_Model_abort_74 ?_
    refine tk_bipush (v := 8) X d_Model_abort_77 (by decide) ?_
    refine tk_iload_n X d_Model_abort_79 rfl rfl ?_
    refine tk_imul X d_Model_abort_80 ?_
    refine tk_iload X d_Model_abort_81 rfl ?_
    refine tk_iadd X d_Model_abort_83 ?_
    refine kr_iald X (f := 15) (i' := r) (by decide) (by decide) rfl (by decide) (q_mul 8 c r) (by omega) (v8k 10 hr2) (v8i hr2) d_Model_abort_84 ?_
    refine kr_iast X hP (f := 14) (i' := r) (by decide) (by decide) rfl (by decide) (q_mul 8 c r) (by omega) (v8k 9 hr2) (v8i hr2) d_Model_abort_85 ?_
    refine tk_iinc (v := nI (r + 1)) X d_Model_abort_86 rfl (q_inc r) (by decide) rfl ?_
    refine tk_goto (tgt := 55) X d_Model_abort_89 (by decide) ?_
    exact ih (r + 1) (by omega)
end LP

set_option maxRecDepth 100000 in
set_option maxHeartbeats 4000000 in
theorem c_Model_abort (l : Launch) (P : ks_P) (hP : ks_ok P) (c q : Nat) (hc : c < ks_n P) (hq : q < 6) (v : Int32) (a b : ks_M) (o : ks_O) (hjk : ∀ j, ks_T P ≤ j → b (7, c, j) 2 = 0) : kc l P y_Model_abort b_Model_abort 5 none 0 [.ref (tk_ad (ks_G P) (12, 0, 0)), .int (nI c), .int (nI q), .int v] a b o (none) a (k_abv (ks_T P) b c q v) o := by
  have hn64 := ks_n64 hP
  have hT64 := ks_T64 hP
  have hc3 : c < 3 := by have := hP.2.1; omega
  refine tk_of hP.2.2.2.2.2 (by decide) rfl (Nat.le_of_ble_eq_true rfl) ?_
  intro p e s m below meth c0 X hlk hr hnm
  refine tk_bipush (v := 12) X d_Model_abort_0 (by decide) ?_
  refine tk_iload_n X d_Model_abort_2 rfl rfl ?_
  refine tk_imul X d_Model_abort_3 ?_
  refine tk_istore X d_Model_abort_4 (by decide) rfl ?_
  rw [show (12 : Int32) * nI c = nI (12 * c + 0) from by rw [show (12 : Int32) = nI 12 from rfl, pk_mul]; rfl]
  refine lp_Model_abort1 X hP hc v a b o ?_ 12 0 (by decide)
  refine tk_iconst (v := 0) X d_Model_abort_52 (by decide) ?_
  refine tk_istore X d_Model_abort_53 (by decide) rfl ?_
  refine lp_Model_abort2 X hP hc v a (r_ab (ks_S P) (ks_W P) b c 12) o ?_ 8 0 (by decide)
  refine tk_aload_n X d_Model_abort_92 rfl rfl ?_
  refine tk_get X (k := (12, 0, 0)) (dm := ks_dm P) (ks_d0 (by decide)) rfl hc_Model hi_Model 7 (by decide) m_Model_13 (v := .ref (tk_ad (ks_G P) (14, 0, 0))) rfl d_Model_abort_93 ?_
  refine tk_bipush (v := 8) X d_Model_abort_96 (by decide) ?_
  refine tk_iload_n X d_Model_abort_98 rfl rfl ?_
  refine tk_imul X d_Model_abort_99 ?_
  refine tk_bipush (v := 7) X d_Model_abort_100 (by decide) ?_
  refine tk_iadd X d_Model_abort_102 ?_
  refine tk_iload_n X d_Model_abort_103 rfl rfl ?_
  refine kr_iast X hP (f := 14) (i' := 7) (by decide) (by decide) rfl (by decide) (q_mul 8 c 7) (by omega) (v8k 9 (by decide)) (v8i (by decide)) d_Model_abort_104 ?_
  refine tk_aload_n X d_Model_abort_105 rfl rfl ?_
  refine tk_get X (k := (12, 0, 0)) (dm := ks_dm P) (ks_d0 (by decide)) rfl hc_Model hi_Model 10 (by decide) m_Model_22 (v := .ref (tk_ad (ks_G P) (17, 0, 0))) rfl d_Model_abort_106 ?_
  refine tk_iload_n X d_Model_abort_109 rfl rfl ?_
  refine tk_aload_n X d_Model_abort_110 rfl rfl ?_
  refine tk_get X (k := (12, 0, 0)) (dm := ks_dm P) (ks_d0 (by decide)) rfl hc_Model hi_Model 12 (by decide) m_Model_28 (v := .ref (tk_ad (ks_G P) (19, 0, 0))) rfl d_Model_abort_111 ?_
  refine tk_iload_n X d_Model_abort_114 rfl rfl ?_
  refine kr_iald X (f := 19) (i' := 7) (k' := (4, c, 0)) (by decide) (by decide) rfl (by decide) rfl hc3 rfl rfl d_Model_abort_115 ?_
  refine kr_iast X hP (f := 17) (i' := 6) (k' := (4, c, 0)) (by decide) (by decide) rfl (by decide) rfl hc3 rfl rfl d_Model_abort_116 ?_
  refine tk_aload_n X d_Model_abort_117 rfl rfl ?_
  refine tk_get X (k := (12, 0, 0)) (dm := ks_dm P) (ks_d0 (by decide)) rfl hc_Model hi_Model 11 (by decide) m_Model_25 (v := .ref (tk_ad (ks_G P) (18, 0, 0))) rfl d_Model_abort_118 ?_
  refine tk_iload_n X d_Model_abort_121 rfl rfl ?_
  refine tk_iconst (v := 0) X d_Model_abort_122 (by decide) ?_
  refine kr_iast X hP (f := 18) (i' := 8) (k' := (4, c, 0)) (by decide) (by decide) rfl (by decide) rfl hc3 rfl rfl d_Model_abort_123 ?_
  refine tk_aload_n X d_Model_abort_124 rfl rfl ?_
  refine tk_get X (k := (12, 0, 0)) (dm := ks_dm P) (ks_d0 (by decide)) rfl hc_Model hi_Model 14 (by decide) m_Model_35 (v := .ref (tk_ad (ks_G P) (21, 0, 0))) rfl d_Model_abort_125 ?_
  refine tk_bipush (v := 6) X d_Model_abort_128 (by decide) ?_
  refine tk_iload_n X d_Model_abort_130 rfl rfl ?_
  refine tk_imul X d_Model_abort_131 ?_
  refine tk_iload_n X d_Model_abort_132 rfl rfl ?_
  refine tk_iadd X d_Model_abort_133 ?_
  refine tk_dup2 X rfl rfl d_Model_abort_134 ?_
  refine kr_iald X (f := 21) (i' := q) (by decide) (by decide) rfl (by decide) (q_mul 6 c q) (by omega) (v6k 11 hq) (v6i hq) d_Model_abort_135 ?_
  refine tk_iconst (v := 1) X d_Model_abort_136 (by decide) ?_
  refine tk_iadd X d_Model_abort_137 ?_
  refine kr_iast X hP (f := 21) (i' := q) (by decide) (by decide) rfl (by decide) (q_mul 6 c q) (by omega) (v6k 11 hq) (v6i hq) d_Model_abort_138 ?_
  exact tk_vret X hlk hr d_Model_abort_139 rfl (fun _ h => h) (Or.inr rfl) (kw_st rfl (by unfold k_abv k_ab2 k_ab1; rw [← r_ab_eq hP b c hjk, ← r_cp_at]) rfl)
end
section
def k_met (S W : Nat) (b : ks_M) (c y : Nat) (w : Bool) : ks_M := match k_find b c y W (k_first S W y) with
  | none => b
  | some j => k_meet (S * W) b c j w
theorem k_ask1_met (S W : Nat) (x : Int32) (y : Nat) (w : Bool) (c : Nat) (a : ks_M) : k_ask1 S W x y w c a = if nI c = x then a else k_met S W a c y w := rfl
theorem k_cp_ne (a : ks_M) {k0 k1 k : tk_K} (n i : Nat) (h : k ≠ k1) : k_cp a k0 k1 n k i = a k i := if_neg (fun q => h q.1)
theorem k_abv_7 (T : Nat) (a : ks_M) (c q : Nat) (v : Int32) (c' j' i : Nat) : k_abv T a c q v (7, c', j') i = k_dm (k_dw a c T) c T (7, c', j') i := by
  unfold k_abv k_ab2 k_ab1
  rw [ks_up_nk _ _ (by simp), ks_up_nk _ _ (by simp), ks_up_nk _ _ (by simp), ks_up_nk _ _ (by simp), k_cp_ne _ _ _ (by simp)]
theorem k_abort_abv (T : Nat) (a : ks_M) (c q : Nat) (m : Int32) : k_abort T a c q m = k_abv T a c q (nI q + m) := rfl
theorem k_ab_i (T : Nat) (a : ks_M) (c q : Nat) (v : Int32) (c' j' : Nat) {i : Nat} (h0 : i ≠ 0) (h2 : i ≠ 2) : k_abv T a c q v (7, c', j') i = a (7, c', j') i := by
  rw [k_abv_7, k_dm_ne _ _ _ _ _ (fun _ _ z => h2 z.2), k_dw_ne _ _ _ _ _ (fun _ _ z => h0 z.2)]
theorem k_ab_c (T : Nat) (a : ks_M) (c q : Nat) (v : Int32) {c' : Nat} (j' i : Nat) (h : c' ≠ c) : k_abv T a c q v (7, c', j') i = a (7, c', j') i := by
  rw [k_abv_7, k_dm_ne _ _ _ _ _ (fun _ _ z => by simp at z; exact h z.1.1), k_dw_ne _ _ _ _ _ (fun _ _ z => by simp at z; exact h z.1.1)]
theorem k_ab_j (T : Nat) (a : ks_M) (c q : Nat) (v : Int32) (c' : Nat) {j' : Nat} (i : Nat) (h : T ≤ j') : k_abv T a c q v (7, c', j') i = a (7, c', j') i := by
  rw [k_abv_7, k_dm_ne _ _ _ _ _ (fun _ _ z => by simp at z; omega), k_dw_ne _ _ _ _ _ (fun _ _ z => by simp at z; omega)]
theorem k_ab_m (T : Nat) (a : ks_M) (c q : Nat) (v : Int32) {j : Nat} (h : j < T) : k_abv T a c q v (7, c, j) 2 = 0 := by
  rw [k_abv_7, k_dm_at _ _ _ _ h]
theorem k_ab_s (T : Nat) (a : ks_M) (c q : Nat) (v : Int32) {j : Nat} (h : j < T) : k_abv T a c q v (7, c, j) 0 = if a (7, c, j) 2 &&& 2 = 0 then a (7, c, j) 0 else 0 := by
  rw [k_abv_7, k_dm_ne _ _ _ _ _ (fun _ _ z => by simp at z), k_dw_at _ _ _ _ h]
theorem k_keep_ne (a : ks_M) (c j : Nat) {k : tk_K} (i : Nat) (h : k ≠ (2, 0, 0)) : k_keep a c j k i = a k i := by
  unfold k_keep k_keep1 k_put
  rw [ks_up_nk _ _ h, ks_up_nk _ _ h]
theorem k_kp_ne (a : ks_M) (c j : Nat) {k : tk_K} (i : Nat) (h : k ≠ (2, 0, 0)) : k_kp a c j k i = a k i := by
  unfold k_kp
  split
  · exact k_keep_ne a c j i h
  · rfl
def r_Vc (T : Nat) (b : ks_M) (c : Nat) : Prop := r_uniq b c T ∧ (∀ j, T ≤ j → b (7, c, j) 2 = 0) ∧ ∀ j, j < T → q_lin (b (7, c, j) 1) ∧ (b (7, c, j) 0 = 0 → b (7, c, j) 2 = 0)
def r_V (n T : Nat) (b : ks_M) : Prop := ∀ c, c < n → r_Vc T b c
def r_le (T : Nat) (a a' : ks_M) (c : Nat) : Prop := (∀ j, a' (7, c, j) 1 = a (7, c, j) 1) ∧ (∀ j, T ≤ j → a' (7, c, j) 2 = a (7, c, j) 2) ∧ ∀ j, j < T → (¬ a' (7, c, j) 0 = 0 → ¬ a (7, c, j) 0 = 0) ∧ (a' (7, c, j) 0 = 0 → a' (7, c, j) 2 = 0)
theorem r_Vc_le {T : Nat} {a a' : ks_M} {c : Nat} (h : r_Vc T a c) (hl : r_le T a a' c) : r_Vc T a' c := by
  refine ⟨fun j j' hj hj' v v' e => ?_, fun j hj => ?_, fun j hj => ⟨?_, (hl.2.2 j hj).2⟩⟩
  · exact h.1 j j' hj hj' ((hl.2.2 j hj).1 v) ((hl.2.2 j' hj').1 v') (by rw [← hl.1 j, ← hl.1 j']; exact e)
  · rw [hl.2.1 j hj]; exact h.2.1 j hj
  · rw [hl.1 j]; exact (h.2.2 j hj).1
theorem r_le_refl {T : Nat} {a a' : ks_M} {c : Nat} (h : r_Vc T a c) (e : ∀ j i, a' (7, c, j) i = a (7, c, j) i) : r_le T a a' c :=
  ⟨fun j => e j 1, fun j _ => e j 2, fun j hj => ⟨fun v => by rw [← e j 0]; exact v, fun v => by rw [e j 2]; exact (h.2.2 j hj).2 (by rw [← e j 0]; exact v)⟩⟩
theorem r_le_abv {T : Nat} {a : ks_M} {c : Nat} (q : Nat) (v : Int32) : r_le T a (k_abv T a c q v) c := by
  refine ⟨fun j => k_ab_i T a c q v c j (by decide) (by decide), fun j hj => k_ab_j T a c q v c 2 hj, fun j hj => ⟨fun z => ?_, fun _ => k_ab_m T a c q v hj⟩⟩
  rw [k_ab_s T a c q v hj] at z
  split at z
  · exact z
  · exact absurd rfl z
theorem r_le_meet1 {T : Nat} {a : ks_M} {c : Nat} (h : r_Vc T a c) (j : Nat) (w : Bool) : r_le T a (k_meet1 T a c j w) c := by
  unfold k_meet1
  split
  · split
    · split
      · exact r_le_refl h (fun _ _ => rfl)
      · exact r_le_abv 1 _
    · exact r_le_refl h (fun _ _ => rfl)
  · exact r_le_abv 1 _
theorem k_meet1_m {T : Nat} {a : ks_M} {c j : Nat} (hj : j < T) : k_meet1 T a c j true (7, c, j) 2 = 0 := by
  unfold k_meet1
  split
  · rw [if_pos rfl]
    split
    · assumption
    · exact k_ab_m T a c 1 _ hj
  · exact k_ab_m T a c 1 _ hj
theorem k_meet1_c (T : Nat) (a : ks_M) (c j : Nat) (w : Bool) {c' : Nat} (j' i : Nat) (h : c' ≠ c) : k_meet1 T a c j w (7, c', j') i = a (7, c', j') i := by
  unfold k_meet1
  split
  · split
    · split
      · rfl
      · exact k_ab_c T a c 1 _ j' i h
    · rfl
  · exact k_ab_c T a c 1 _ j' i h
theorem k_meet2_c (a : ks_M) (c j : Nat) (w : Bool) {c' : Nat} (j' i : Nat) (h : c' ≠ c) : k_meet2 a c j w (7, c', j') i = a (7, c', j') i := by
  unfold k_meet2
  split
  · rfl
  · rw [ks_up_ne _ _ (fun q => by simp at q; exact h q.1.1), k_kp_ne _ _ _ _ (by simp)]
theorem k_meet_c (T : Nat) (a : ks_M) (c j : Nat) (w : Bool) {c' : Nat} (j' i : Nat) (h : c' ≠ c) : k_meet T a c j w (7, c', j') i = a (7, c', j') i := by
  unfold k_meet
  rw [k_meet2_c _ _ _ _ _ _ h, k_meet1_c _ _ _ _ _ _ _ h]
theorem r_le_meet {T : Nat} {a : ks_M} {c : Nat} (h : r_Vc T a c) {j : Nat} (hj : j < T) (w : Bool) : r_le T a (k_meet T a c j w) c := by
  have h1 := r_le_meet1 h j w
  unfold k_meet k_meet2
  split
  · exact h1
  · rename_i hs
    have e : ∀ j' i, ¬ (j' = j ∧ i = 0) → ks_up (k_kp (k_meet1 T a c j w) c j) (7, c, j) 0 (if w = true then 0 else 1) (7, c, j') i = k_meet1 T a c j w (7, c, j') i := fun j' i hn => by
      rw [ks_up_ne _ _ (fun q => hn (by simp at q; exact q)), k_kp_ne _ _ _ _ (by simp)]
    refine ⟨fun j' => by rw [e j' 1 (fun q => by simp at q)]; exact h1.1 j', fun j' hj' => by rw [e j' 2 (fun q => by simp at q)]; exact h1.2.1 j' hj', fun j' hj' => ?_⟩
    by_cases hjj : j' = j
    · subst hjj
      refine ⟨fun _ => (h1.2.2 j' hj').1 hs, fun z => ?_⟩
      rw [e j' 2 (fun q => by simp at q)]
      rw [ks_up_eq] at z
      cases w with
      | true => exact k_meet1_m hj'
      | false => exact absurd z (by decide)
    · rw [e j' 0 (fun q => hjj q.1), e j' 2 (fun q => by simp at q)]
      exact h1.2.2 j' hj'
theorem r_Vc_met {S W : Nat} {b : ks_M} {c y : Nat} (h : r_Vc (S * W) b c) (hF : k_first S W y + W ≤ S * W) (w : Bool) : r_Vc (S * W) (k_met S W b c y w) c := by
  unfold k_met
  cases hf : k_find b c y W (k_first S W y) with
  | none => exact h
  | some j =>
    have := k_find_lt b c y _ _ hf
    exact r_Vc_le h (r_le_meet h (by omega) w)
theorem k_met_c (S W : Nat) (b : ks_M) (c y : Nat) (w : Bool) {c' : Nat} (j' i : Nat) (h : c' ≠ c) : k_met S W b c y w (7, c', j') i = b (7, c', j') i := by
  unfold k_met
  cases k_find b c y W (k_first S W y) with
  | none => rfl
  | some j => exact k_meet_c _ _ _ _ _ _ _ h
theorem r_Vc_eq {T : Nat} {a a' : ks_M} {c : Nat} (h : r_Vc T a c) (e : ∀ j i, a' (7, c, j) i = a (7, c, j) i) : r_Vc T a' c := r_Vc_le h (r_le_refl h e)
theorem r_V_met {n S W : Nat} {b : ks_M} (h : r_V n (S * W) b) {c y : Nat} (hF : k_first S W y + W ≤ S * W) (w : Bool) : r_V n (S * W) (k_met S W b c y w) := fun c' hc' => by
  by_cases e : c' = c
  · subst e
    exact r_Vc_met (h c' hc') hF w
  · exact r_Vc_eq (h c' hc') (fun j i => k_met_c S W b c y w j i e)
theorem r_V_ask1 {n S W : Nat} {b : ks_M} (h : r_V n (S * W) b) (x : Int32) {c y : Nat} (hF : k_first S W y + W ≤ S * W) (w : Bool) : r_V n (S * W) (k_ask1 S W x y w c b) := by
  rw [k_ask1_met]
  split
  · exact h
  · exact r_V_met h hF w
theorem r_V_send {n S W : Nat} (x : Int32) {y : Nat} (hF : k_first S W y + W ≤ S * W) (w : Bool) : ∀ (k i : Nat) (b : ks_M), r_V n (S * W) b → r_V n (S * W) (k_send S W x y w k i b)
  | 0, _, _, h => h
  | k + 1, i, b, h => r_V_send x hF w k (i + 1) _ (r_V_ask1 h x hF w)
theorem k_send_own (S W : Nat) {c y : Nat} (w : Bool) (hc : c < 64) : ∀ (k i : Nat) (b : ks_M), i + k ≤ 64 → ∀ j' z, k_send S W (nI c) y w k i b (7, c, j') z = b (7, c, j') z
  | 0, _, _, _, _, _ => rfl
  | k + 1, i, b, hk, j', z => by
    rw [k_send, k_send_own S W w hc k (i + 1) _ (by omega), k_ask1_met]
    split
    · rfl
    · rename_i hne
      exact k_met_c S W b i y w j' z (fun q => hne (by rw [q]))
theorem k_us1_ne (a : ks_M) {k : tk_K} (i : Nat) (h : k ≠ (0, 0, 0)) : k_us1 a k i = a k i := ks_up_nk a _ h
theorem k_modify_4 (a : ks_M) (c j : Nat) (t : Bool) (c' i : Nat) : k_modify a c j t (4, c', 0) i = a (4, c', 0) i := by
  unfold k_modify k_kp2
  rw [ks_up_nk _ _ (by simp)]
  split
  · split
    · split
      · exact k_keep_ne a c j i (by simp)
      · rfl
    · rfl
  · rfl
theorem r_refill {b : ks_M} {c j y : Nat} (hy : y < 32) (hm : b (7, c, j) 2 = 0) (b1 : ks_M) (e1 : k_kp b c j = b1) : ks_up (ks_up (ks_up (ks_up (ks_up b1 (7, c, j) 0 1) (7, c, j) 1 (nI y)) (7, c, j) 2 0) (7, c, j) 3 (b1 (2, 0, 0) (2 * y))) (7, c, j) 4 (b1 (2, 0, 0) (2 * y + 1)) = k_refill b c j (nI y) := by
  have hm1 : b1 (7, c, j) 2 = 0 := by rw [← e1, k_kp_ne _ _ _ _ (by simp)]; exact hm
  have q1 : q_ix ((2 * nI y) &&& 63) = 2 * y := by
    rw [show (2 : Int32) = nI 2 from rfl, pk_mul, pk_andN (by omega) 6 (by decide), q_ix_nI (by omega), Nat.mod_eq_of_lt (by omega)]
  have q2 : q_ix ((2 * nI y + 1) &&& 63) = 2 * y + 1 := by
    rw [show (2 : Int32) = nI 2 from rfl, pk_mul, nI_1, pk_andN (by omega) 6 (by decide), q_ix_nI (by omega), Nat.mod_eq_of_lt (by omega)]
  unfold k_refill k_fill k_fill2 k_fill1 k_get
  rw [e1, q1, q2]
  funext k i
  by_cases hk : k = (7, c, j)
  · subst hk
    by_cases i0 : i = 0
    · subst i0; simp [ks_up]
    · by_cases i1 : i = 1
      · subst i1; simp [ks_up]
      · by_cases i2 : i = 2
        · subst i2; simp [ks_up, hm1]
        · by_cases i3 : i = 3
          · subst i3; simp [ks_up]
          · by_cases i4 : i = 4
            · subst i4; simp [ks_up]
            · simp [ks_up, i0, i1, i2, i3, i4]
  · simp [ks_up, hk]
theorem k_room_m {T : Nat} {b : ks_M} {c : Nat} (h : r_Vc T b c) : ∀ (k j0 : Nat) (q : Option Nat) {j : Nat}, j0 + k ≤ T → (∀ i, q = some i → b (7, c, i) 2 = 0) → k_room b c k j0 q = some j → b (7, c, j) 2 = 0
  | 0, _, _, _, _, hq, e => hq _ e
  | k + 1, j0, q, j, hk, hq, e => by
    rw [k_room] at e
    split at e
    · rename_i hs
      cases e
      exact (h.2.2 j0 (by omega)).2 hs
    · refine k_room_m h k (j0 + 1) _ (by omega) (fun i hi => ?_) e
      split at hi
      · rename_i hm
        cases hi
        exact hm.1
      · exact hq i hi
def r_f4 (b : ks_M) (c j y : Nat) : ks_M := ks_up (ks_up (ks_up b (7, c, j) 0 1) (7, c, j) 1 (nI y)) (7, c, j) 2 0
def r_f5 (b : ks_M) (c j y : Nat) : ks_M := ks_up (r_f4 b c j y) (7, c, j) 3 (r_f4 b c j y (2, 0, 0) (2 * y))
def r_fl (b : ks_M) (c j y : Nat) : ks_M := ks_up (r_f5 b c j y) (7, c, j) 4 (r_f5 b c j y (2, 0, 0) (2 * y + 1))
theorem r_f4_2 (b : ks_M) (c j y i : Nat) : r_f4 b c j y (2, 0, 0) i = b (2, 0, 0) i := by
  unfold r_f4
  rw [ks_up_nk _ _ (by simp), ks_up_nk _ _ (by simp), ks_up_nk _ _ (by simp)]
theorem r_f5_2 (b : ks_M) (c j y i : Nat) : r_f5 b c j y (2, 0, 0) i = b (2, 0, 0) i := by
  unfold r_f5
  rw [ks_up_nk _ _ (by simp), r_f4_2]
theorem r_fill2 {b : ks_M} {c j y : Nat} (hy : y < 32) (hm : b (7, c, j) 2 = 0) {b1 : ks_M} (e1 : k_kp b c j = b1) : r_fl b1 c j y = k_refill b c j (nI y) := by
  rw [← r_refill hy hm b1 e1]
  unfold r_fl
  rw [r_f5_2]
  unfold r_f5
  rw [r_f4_2]
  rfl
theorem r_fl1 (b : ks_M) (c j y : Nat) : r_fl b c j y (7, c, j) 1 = nI y := by
  unfold r_fl r_f5 r_f4
  rw [ks_up_ne _ _ (by simp), ks_up_ne _ _ (by simp), ks_up_ne _ _ (by simp), ks_up_eq]
end
section
theorem c_Model_abortK (l : Launch) (P : ks_P) (hP : ks_ok P) (c q : Nat) (hc : c < ks_n P) (hq : q < 6) (m v : Int32) (hv : nI q + m = v) (a b : ks_M) (o : ks_O) (hjk : ∀ j, ks_T P ≤ j → b (7, c, j) 2 = 0) : kc l P y_Model_abort b_Model_abort 5 none 0 [.ref (tk_ad (ks_G P) (12, 0, 0)), .int (nI c), .int (nI q), .int v] a b o none a (k_abort (ks_T P) b c q m) o := by
  subst hv
  exact c_Model_abort l P hP c q hc hq _ a b o hjk

set_option maxRecDepth 100000 in
set_option maxHeartbeats 4000000 in
theorem c_Model_meet (l : Launch) (P : ks_P) (hP : ks_ok P) (c y : Nat) (hc : c < ks_n P) (hy : y < 32) (w : Bool) (a b : ks_M) (o : ks_O) (hv : r_Vc (ks_T P) b c) : kc l P y_Model_meet b_Model_meet 5 none 2 [.ref (tk_ad (ks_G P) (12, 0, 0)), .int (nI c), .int (nI y), .int (q_b w)] a b o (none) a (k_met (ks_S P) (ks_W P) b c y w) o := by
  have hn64 := ks_n64 hP
  have hT64 := ks_T64 hP
  cases w with
  | false =>
    refine tk_of hP.2.2.2.2.2 (by decide) rfl (Nat.le_of_ble_eq_true rfl) ?_
    intro p e s m below meth c0 X hlk hr hnm
    refine tk_aload_n X d_Model_meet_0 rfl rfl ?_
    refine tk_iload_n X d_Model_meet_1 rfl rfl ?_
    refine tk_iload_n X d_Model_meet_2 rfl rfl ?_
    refine tk_callV X (kb := (12, 0, 0)) (ks_d0 (by decide)) rfl hc_Model (c_Model_find l P hP c y hc hy a b o hv.1) (ks_site (n := 2) mc_Model_find mi_Model (by decide +kernel) (by decide) (by decide)) m_Model_73 ms_Model_find mv_Model_find rfl (Nat.le_of_ble_eq_true rfl) ⟨Nat.le_of_ble_eq_true rfl, Nat.le_of_ble_eq_true rfl⟩ rfl d_Model_meet_3 ?_
    cases hf : k_find b c y (ks_W P) (k_first (ks_S P) (ks_W P) y) with
    | none =>
      refine tk_istore X d_Model_meet_6 (by decide) rfl ?_
      refine tk_iload X d_Model_meet_8 rfl ?_
      refine tk_iconst (v := -1) X d_Model_meet_10 (by decide) ?_
      refine tk_icmp_ne (tgt := 15) X d_Model_meet_11 (by decide) (fun h => absurd rfl h) (fun _ => ?_)
      have em : k_met (ks_S P) (ks_W P) b c y false = b := by unfold k_met; rw [hf]
      exact tk_vret X hlk hr d_Model_meet_14 rfl (fun _ h => h) (Or.inr rfl) (kw_st rfl em.symm rfl)
    | some j =>
      have hj : j < ks_T P := k_find_T hP hf
      have hl : q_lin (b (7, c, j) 1) := ⟨y, hy, (k_find_mat b c y _ _ hf).2⟩
      have em : k_met (ks_S P) (ks_W P) b c y false = k_meet (ks_T P) b c j false := by unfold k_met; rw [hf]
      refine tk_istore X d_Model_meet_6 (by decide) rfl ?_
      refine tk_iload X d_Model_meet_8 rfl ?_
      refine tk_iconst (v := -1) X d_Model_meet_10 (by decide) ?_
      refine tk_icmp_ne (tgt := 15) X d_Model_meet_11 (by decide) (fun _ => ?_) (fun h => absurd h (nI_nm1 (Nat.lt_trans (r_pj_lt hP hc hj) (by decide))))
      refine tk_aload_n X d_Model_meet_15 rfl rfl ?_
      refine tk_get X (k := (12, 0, 0)) (dm := ks_dm P) (ks_d0 (by decide)) rfl hc_Model hi_Model 17 (by decide) m_Model_44 (v := .ref (tk_ad (ks_G P) (24, 0, 0))) rfl d_Model_meet_16 ?_
      refine tk_iload X d_Model_meet_19 rfl ?_
      refine kr_iald X (f := 24) (i' := 2) (by decide) (by decide) rfl (by decide) rfl (r_pj_lt hP hc hj) (ks_vk_pj hP hj) rfl d_Model_meet_21 ?_
      refine tk_iconst (v := 2) X d_Model_meet_22 (by decide) ?_
      refine tk_iand X d_Model_meet_23 ?_
      refine tk_if_ne (tgt := 41) X d_Model_meet_24 (by decide) (fun h1 => ?_) (fun h1 => ?_)
      · skip
        refine tk_aload_n X d_Model_meet_41 rfl rfl ?_
        refine tk_iload_n X d_Model_meet_42 rfl rfl ?_
        refine tk_iconst (v := 1) X d_Model_meet_43 (by decide) ?_
        refine tk_iconst (v := 1) X d_Model_meet_44 (by decide) ?_
        refine tk_callV X (kb := (12, 0, 0)) (ks_d0 (by decide)) rfl hc_Model (c_Model_abortK l P hP c 1 hc (by decide) 0 1 (by decide) a b o hv.2.1) (ks_site (n := 3) mc_Model_abort mi_Model (by decide +kernel) (by decide) (by decide)) m_Model_77 ms_Model_abort mv_Model_abort rfl (Nat.le_of_ble_eq_true rfl) ⟨Nat.le_of_ble_eq_true rfl, Nat.le_of_ble_eq_true rfl⟩ rfl d_Model_meet_45 ?_
        refine tk_aload_n X d_Model_meet_48 rfl rfl ?_
        refine tk_get X (k := (12, 0, 0)) (dm := ks_dm P) (ks_d0 (by decide)) rfl hc_Model hi_Model 15 (by decide) m_Model_38 (v := .ref (tk_ad (ks_G P) (22, 0, 0))) rfl d_Model_meet_49 ?_
        refine tk_iload X d_Model_meet_52 rfl ?_
        refine kr_iald X (f := 22) (i' := 0) (by decide) (by decide) rfl (by decide) rfl (r_pj_lt hP hc hj) (ks_vk_pj hP hj) rfl d_Model_meet_54 ?_
        refine tk_if_ne (tgt := 59) X d_Model_meet_55 (by decide) (fun h2 => ?_) (fun h2 => ?_)
        · skip
          refine tk_aload_n X d_Model_meet_59 rfl rfl ?_
          refine tk_get X (k := (12, 0, 0)) (dm := ks_dm P) (ks_d0 (by decide)) rfl hc_Model hi_Model 15 (by decide) m_Model_38 (v := .ref (tk_ad (ks_G P) (22, 0, 0))) rfl d_Model_meet_60 ?_
          refine tk_iload X d_Model_meet_63 rfl ?_
          refine kr_iald X (f := 22) (i' := 0) (by decide) (by decide) rfl (by decide) rfl (r_pj_lt hP hc hj) (ks_vk_pj hP hj) rfl d_Model_meet_65 ?_
          refine tk_iconst (v := 2) X d_Model_meet_66 (by decide) ?_
          refine tk_icmp_ne (tgt := 76) X d_Model_meet_67 (by decide) (fun h3 => ?_) (fun h3 => ?_)
          · skip
            refine tk_aload_n X d_Model_meet_76 rfl rfl ?_
            refine tk_get X (k := (12, 0, 0)) (dm := ks_dm P) (ks_d0 (by decide)) rfl hc_Model hi_Model 15 (by decide) m_Model_38 (v := .ref (tk_ad (ks_G P) (22, 0, 0))) rfl d_Model_meet_77 ?_
            refine tk_iload X d_Model_meet_80 rfl ?_
            refine tk_iload_n X d_Model_meet_82 rfl rfl ?_
            refine tk_if_eq (tgt := 90) X d_Model_meet_83 (by decide) (fun _ => ?_) (fun h => absurd (by decide) h)
            refine tk_iconst (v := 1) X d_Model_meet_90 (by decide) ?_
            refine kr_iast X hP (f := 22) (i' := 0) (by decide) (by decide) rfl (by decide) rfl (r_pj_lt hP hc hj) (ks_vk_pj hP hj) rfl d_Model_meet_91 ?_
            have e1 : k_meet1 (ks_T P) b c j false = (k_abort (ks_T P) b c 1 0) := (if_neg h1)
            have e2 : k_kp (k_abort (ks_T P) b c 1 0) c j = _ := if_neg h3
            exact tk_vret X hlk hr d_Model_meet_92 rfl (fun _ h => h) (Or.inr rfl) (kw_st rfl (by rw [em, k_meet, e1]; refine Eq.trans ?_ (if_neg h2).symm; rw [e2]; rfl) rfl)
          · skip
            refine tk_aload_n X d_Model_meet_70 rfl rfl ?_
            refine tk_iload X d_Model_meet_71 rfl ?_
            refine tk_callV X (kb := (12, 0, 0)) (ks_d0 (by decide)) rfl hc_Model (c_Model_toMemory l P hP c j hc hj a (k_abort (ks_T P) b c 1 0) o (by rw [k_abort_abv, k_ab_i _ _ _ _ _ _ _ (by decide) (by decide)]; exact hl)) (ks_site (n := 1) mc_Model_toMemory mi_Model (by decide +kernel) (by decide) (by decide)) m_Model_81 ms_Model_toMemory mv_Model_toMemory rfl (Nat.le_of_ble_eq_true rfl) ⟨Nat.le_of_ble_eq_true rfl, Nat.le_of_ble_eq_true rfl⟩ rfl d_Model_meet_73 ?_
            refine tk_aload_n X d_Model_meet_76 rfl rfl ?_
            refine tk_get X (k := (12, 0, 0)) (dm := ks_dm P) (ks_d0 (by decide)) rfl hc_Model hi_Model 15 (by decide) m_Model_38 (v := .ref (tk_ad (ks_G P) (22, 0, 0))) rfl d_Model_meet_77 ?_
            refine tk_iload X d_Model_meet_80 rfl ?_
            refine tk_iload_n X d_Model_meet_82 rfl rfl ?_
            refine tk_if_eq (tgt := 90) X d_Model_meet_83 (by decide) (fun _ => ?_) (fun h => absurd (by decide) h)
            refine tk_iconst (v := 1) X d_Model_meet_90 (by decide) ?_
            refine kr_iast X hP (f := 22) (i' := 0) (by decide) (by decide) rfl (by decide) rfl (r_pj_lt hP hc hj) (ks_vk_pj hP hj) rfl d_Model_meet_91 ?_
            have e1 : k_meet1 (ks_T P) b c j false = (k_abort (ks_T P) b c 1 0) := (if_neg h1)
            have e2 : k_kp (k_abort (ks_T P) b c 1 0) c j = _ := if_pos h3
            exact tk_vret X hlk hr d_Model_meet_92 rfl (fun _ h => h) (Or.inr rfl) (kw_st rfl (by rw [em, k_meet, e1]; refine Eq.trans ?_ (if_neg h2).symm; rw [e2]; rfl) rfl)
        · skip
          have e1 : k_meet1 (ks_T P) b c j false = (k_abort (ks_T P) b c 1 0) := (if_neg h1)
          exact tk_vret X hlk hr d_Model_meet_58 rfl (fun _ h => h) (Or.inr rfl) (kw_st rfl (by rw [em, k_meet, e1]; exact (if_pos h2).symm) rfl)
      · skip
        refine tk_iload_n X d_Model_meet_27 rfl rfl ?_
        refine tk_if_eq (tgt := 48) X d_Model_meet_28 (by decide) (fun _ => ?_) (fun h => absurd (by decide) h)
        refine tk_aload_n X d_Model_meet_48 rfl rfl ?_
        refine tk_get X (k := (12, 0, 0)) (dm := ks_dm P) (ks_d0 (by decide)) rfl hc_Model hi_Model 15 (by decide) m_Model_38 (v := .ref (tk_ad (ks_G P) (22, 0, 0))) rfl d_Model_meet_49 ?_
        refine tk_iload X d_Model_meet_52 rfl ?_
        refine kr_iald X (f := 22) (i' := 0) (by decide) (by decide) rfl (by decide) rfl (r_pj_lt hP hc hj) (ks_vk_pj hP hj) rfl d_Model_meet_54 ?_
        refine tk_if_ne (tgt := 59) X d_Model_meet_55 (by decide) (fun h4 => ?_) (fun h4 => ?_)
        · skip
          refine tk_aload_n X d_Model_meet_59 rfl rfl ?_
          refine tk_get X (k := (12, 0, 0)) (dm := ks_dm P) (ks_d0 (by decide)) rfl hc_Model hi_Model 15 (by decide) m_Model_38 (v := .ref (tk_ad (ks_G P) (22, 0, 0))) rfl d_Model_meet_60 ?_
          refine tk_iload X d_Model_meet_63 rfl ?_
          refine kr_iald X (f := 22) (i' := 0) (by decide) (by decide) rfl (by decide) rfl (r_pj_lt hP hc hj) (ks_vk_pj hP hj) rfl d_Model_meet_65 ?_
          refine tk_iconst (v := 2) X d_Model_meet_66 (by decide) ?_
          refine tk_icmp_ne (tgt := 76) X d_Model_meet_67 (by decide) (fun h5 => ?_) (fun h5 => ?_)
          · skip
            refine tk_aload_n X d_Model_meet_76 rfl rfl ?_
            refine tk_get X (k := (12, 0, 0)) (dm := ks_dm P) (ks_d0 (by decide)) rfl hc_Model hi_Model 15 (by decide) m_Model_38 (v := .ref (tk_ad (ks_G P) (22, 0, 0))) rfl d_Model_meet_77 ?_
            refine tk_iload X d_Model_meet_80 rfl ?_
            refine tk_iload_n X d_Model_meet_82 rfl rfl ?_
            refine tk_if_eq (tgt := 90) X d_Model_meet_83 (by decide) (fun _ => ?_) (fun h => absurd (by decide) h)
            refine tk_iconst (v := 1) X d_Model_meet_90 (by decide) ?_
            refine kr_iast X hP (f := 22) (i' := 0) (by decide) (by decide) rfl (by decide) rfl (r_pj_lt hP hc hj) (ks_vk_pj hP hj) rfl d_Model_meet_91 ?_
            have e1 : k_meet1 (ks_T P) b c j false = b := ((if_pos h1).trans (if_neg (by decide)))
            have e2 : k_kp b c j = _ := if_neg h5
            exact tk_vret X hlk hr d_Model_meet_92 rfl (fun _ h => h) (Or.inr rfl) (kw_st rfl (by rw [em, k_meet, e1]; refine Eq.trans ?_ (if_neg h4).symm; rw [e2]; rfl) rfl)
          · skip
            refine tk_aload_n X d_Model_meet_70 rfl rfl ?_
            refine tk_iload X d_Model_meet_71 rfl ?_
            refine tk_callV X (kb := (12, 0, 0)) (ks_d0 (by decide)) rfl hc_Model (c_Model_toMemory l P hP c j hc hj a b o hl) (ks_site (n := 1) mc_Model_toMemory mi_Model (by decide +kernel) (by decide) (by decide)) m_Model_81 ms_Model_toMemory mv_Model_toMemory rfl (Nat.le_of_ble_eq_true rfl) ⟨Nat.le_of_ble_eq_true rfl, Nat.le_of_ble_eq_true rfl⟩ rfl d_Model_meet_73 ?_
            refine tk_aload_n X d_Model_meet_76 rfl rfl ?_
            refine tk_get X (k := (12, 0, 0)) (dm := ks_dm P) (ks_d0 (by decide)) rfl hc_Model hi_Model 15 (by decide) m_Model_38 (v := .ref (tk_ad (ks_G P) (22, 0, 0))) rfl d_Model_meet_77 ?_
            refine tk_iload X d_Model_meet_80 rfl ?_
            refine tk_iload_n X d_Model_meet_82 rfl rfl ?_
            refine tk_if_eq (tgt := 90) X d_Model_meet_83 (by decide) (fun _ => ?_) (fun h => absurd (by decide) h)
            refine tk_iconst (v := 1) X d_Model_meet_90 (by decide) ?_
            refine kr_iast X hP (f := 22) (i' := 0) (by decide) (by decide) rfl (by decide) rfl (r_pj_lt hP hc hj) (ks_vk_pj hP hj) rfl d_Model_meet_91 ?_
            have e1 : k_meet1 (ks_T P) b c j false = b := ((if_pos h1).trans (if_neg (by decide)))
            have e2 : k_kp b c j = _ := if_pos h5
            exact tk_vret X hlk hr d_Model_meet_92 rfl (fun _ h => h) (Or.inr rfl) (kw_st rfl (by rw [em, k_meet, e1]; refine Eq.trans ?_ (if_neg h4).symm; rw [e2]; rfl) rfl)
        · skip
          have e1 : k_meet1 (ks_T P) b c j false = b := ((if_pos h1).trans (if_neg (by decide)))
          exact tk_vret X hlk hr d_Model_meet_58 rfl (fun _ h => h) (Or.inr rfl) (kw_st rfl (by rw [em, k_meet, e1]; exact (if_pos h4).symm) rfl)
  | true =>
    refine tk_of hP.2.2.2.2.2 (by decide) rfl (Nat.le_of_ble_eq_true rfl) ?_
    intro p e s m below meth c0 X hlk hr hnm
    refine tk_aload_n X d_Model_meet_0 rfl rfl ?_
    refine tk_iload_n X d_Model_meet_1 rfl rfl ?_
    refine tk_iload_n X d_Model_meet_2 rfl rfl ?_
    refine tk_callV X (kb := (12, 0, 0)) (ks_d0 (by decide)) rfl hc_Model (c_Model_find l P hP c y hc hy a b o hv.1) (ks_site (n := 2) mc_Model_find mi_Model (by decide +kernel) (by decide) (by decide)) m_Model_73 ms_Model_find mv_Model_find rfl (Nat.le_of_ble_eq_true rfl) ⟨Nat.le_of_ble_eq_true rfl, Nat.le_of_ble_eq_true rfl⟩ rfl d_Model_meet_3 ?_
    cases hf : k_find b c y (ks_W P) (k_first (ks_S P) (ks_W P) y) with
    | none =>
      refine tk_istore X d_Model_meet_6 (by decide) rfl ?_
      refine tk_iload X d_Model_meet_8 rfl ?_
      refine tk_iconst (v := -1) X d_Model_meet_10 (by decide) ?_
      refine tk_icmp_ne (tgt := 15) X d_Model_meet_11 (by decide) (fun h => absurd rfl h) (fun _ => ?_)
      have em : k_met (ks_S P) (ks_W P) b c y true = b := by unfold k_met; rw [hf]
      exact tk_vret X hlk hr d_Model_meet_14 rfl (fun _ h => h) (Or.inr rfl) (kw_st rfl em.symm rfl)
    | some j =>
      have hj : j < ks_T P := k_find_T hP hf
      have hl : q_lin (b (7, c, j) 1) := ⟨y, hy, (k_find_mat b c y _ _ hf).2⟩
      have em : k_met (ks_S P) (ks_W P) b c y true = k_meet (ks_T P) b c j true := by unfold k_met; rw [hf]
      refine tk_istore X d_Model_meet_6 (by decide) rfl ?_
      refine tk_iload X d_Model_meet_8 rfl ?_
      refine tk_iconst (v := -1) X d_Model_meet_10 (by decide) ?_
      refine tk_icmp_ne (tgt := 15) X d_Model_meet_11 (by decide) (fun _ => ?_) (fun h => absurd h (nI_nm1 (Nat.lt_trans (r_pj_lt hP hc hj) (by decide))))
      refine tk_aload_n X d_Model_meet_15 rfl rfl ?_
      refine tk_get X (k := (12, 0, 0)) (dm := ks_dm P) (ks_d0 (by decide)) rfl hc_Model hi_Model 17 (by decide) m_Model_44 (v := .ref (tk_ad (ks_G P) (24, 0, 0))) rfl d_Model_meet_16 ?_
      refine tk_iload X d_Model_meet_19 rfl ?_
      refine kr_iald X (f := 24) (i' := 2) (by decide) (by decide) rfl (by decide) rfl (r_pj_lt hP hc hj) (ks_vk_pj hP hj) rfl d_Model_meet_21 ?_
      refine tk_iconst (v := 2) X d_Model_meet_22 (by decide) ?_
      refine tk_iand X d_Model_meet_23 ?_
      refine tk_if_ne (tgt := 41) X d_Model_meet_24 (by decide) (fun h1 => ?_) (fun h1 => ?_)
      · skip
        refine tk_aload_n X d_Model_meet_41 rfl rfl ?_
        refine tk_iload_n X d_Model_meet_42 rfl rfl ?_
        refine tk_iconst (v := 1) X d_Model_meet_43 (by decide) ?_
        refine tk_iconst (v := 1) X d_Model_meet_44 (by decide) ?_
        refine tk_callV X (kb := (12, 0, 0)) (ks_d0 (by decide)) rfl hc_Model (c_Model_abortK l P hP c 1 hc (by decide) 0 1 (by decide) a b o hv.2.1) (ks_site (n := 3) mc_Model_abort mi_Model (by decide +kernel) (by decide) (by decide)) m_Model_77 ms_Model_abort mv_Model_abort rfl (Nat.le_of_ble_eq_true rfl) ⟨Nat.le_of_ble_eq_true rfl, Nat.le_of_ble_eq_true rfl⟩ rfl d_Model_meet_45 ?_
        refine tk_aload_n X d_Model_meet_48 rfl rfl ?_
        refine tk_get X (k := (12, 0, 0)) (dm := ks_dm P) (ks_d0 (by decide)) rfl hc_Model hi_Model 15 (by decide) m_Model_38 (v := .ref (tk_ad (ks_G P) (22, 0, 0))) rfl d_Model_meet_49 ?_
        refine tk_iload X d_Model_meet_52 rfl ?_
        refine kr_iald X (f := 22) (i' := 0) (by decide) (by decide) rfl (by decide) rfl (r_pj_lt hP hc hj) (ks_vk_pj hP hj) rfl d_Model_meet_54 ?_
        refine tk_if_ne (tgt := 59) X d_Model_meet_55 (by decide) (fun h2 => ?_) (fun h2 => ?_)
        · skip
          refine tk_aload_n X d_Model_meet_59 rfl rfl ?_
          refine tk_get X (k := (12, 0, 0)) (dm := ks_dm P) (ks_d0 (by decide)) rfl hc_Model hi_Model 15 (by decide) m_Model_38 (v := .ref (tk_ad (ks_G P) (22, 0, 0))) rfl d_Model_meet_60 ?_
          refine tk_iload X d_Model_meet_63 rfl ?_
          refine kr_iald X (f := 22) (i' := 0) (by decide) (by decide) rfl (by decide) rfl (r_pj_lt hP hc hj) (ks_vk_pj hP hj) rfl d_Model_meet_65 ?_
          refine tk_iconst (v := 2) X d_Model_meet_66 (by decide) ?_
          refine tk_icmp_ne (tgt := 76) X d_Model_meet_67 (by decide) (fun h3 => ?_) (fun h3 => ?_)
          · skip
            refine tk_aload_n X d_Model_meet_76 rfl rfl ?_
            refine tk_get X (k := (12, 0, 0)) (dm := ks_dm P) (ks_d0 (by decide)) rfl hc_Model hi_Model 15 (by decide) m_Model_38 (v := .ref (tk_ad (ks_G P) (22, 0, 0))) rfl d_Model_meet_77 ?_
            refine tk_iload X d_Model_meet_80 rfl ?_
            refine tk_iload_n X d_Model_meet_82 rfl rfl ?_
            refine tk_if_eq (tgt := 90) X d_Model_meet_83 (by decide) (fun h => absurd h (by decide)) (fun _ => ?_)
            refine tk_iconst (v := 0) X d_Model_meet_86 (by decide) ?_
            refine tk_goto (tgt := 91) X d_Model_meet_87 (by decide) ?_
            refine kr_iast X hP (f := 22) (i' := 0) (by decide) (by decide) rfl (by decide) rfl (r_pj_lt hP hc hj) (ks_vk_pj hP hj) rfl d_Model_meet_91 ?_
            have e1 : k_meet1 (ks_T P) b c j true = (k_abort (ks_T P) b c 1 0) := (if_neg h1)
            have e2 : k_kp (k_abort (ks_T P) b c 1 0) c j = _ := if_neg h3
            exact tk_vret X hlk hr d_Model_meet_92 rfl (fun _ h => h) (Or.inr rfl) (kw_st rfl (by rw [em, k_meet, e1]; refine Eq.trans ?_ (if_neg h2).symm; rw [e2]; rfl) rfl)
          · skip
            refine tk_aload_n X d_Model_meet_70 rfl rfl ?_
            refine tk_iload X d_Model_meet_71 rfl ?_
            refine tk_callV X (kb := (12, 0, 0)) (ks_d0 (by decide)) rfl hc_Model (c_Model_toMemory l P hP c j hc hj a (k_abort (ks_T P) b c 1 0) o (by rw [k_abort_abv, k_ab_i _ _ _ _ _ _ _ (by decide) (by decide)]; exact hl)) (ks_site (n := 1) mc_Model_toMemory mi_Model (by decide +kernel) (by decide) (by decide)) m_Model_81 ms_Model_toMemory mv_Model_toMemory rfl (Nat.le_of_ble_eq_true rfl) ⟨Nat.le_of_ble_eq_true rfl, Nat.le_of_ble_eq_true rfl⟩ rfl d_Model_meet_73 ?_
            refine tk_aload_n X d_Model_meet_76 rfl rfl ?_
            refine tk_get X (k := (12, 0, 0)) (dm := ks_dm P) (ks_d0 (by decide)) rfl hc_Model hi_Model 15 (by decide) m_Model_38 (v := .ref (tk_ad (ks_G P) (22, 0, 0))) rfl d_Model_meet_77 ?_
            refine tk_iload X d_Model_meet_80 rfl ?_
            refine tk_iload_n X d_Model_meet_82 rfl rfl ?_
            refine tk_if_eq (tgt := 90) X d_Model_meet_83 (by decide) (fun h => absurd h (by decide)) (fun _ => ?_)
            refine tk_iconst (v := 0) X d_Model_meet_86 (by decide) ?_
            refine tk_goto (tgt := 91) X d_Model_meet_87 (by decide) ?_
            refine kr_iast X hP (f := 22) (i' := 0) (by decide) (by decide) rfl (by decide) rfl (r_pj_lt hP hc hj) (ks_vk_pj hP hj) rfl d_Model_meet_91 ?_
            have e1 : k_meet1 (ks_T P) b c j true = (k_abort (ks_T P) b c 1 0) := (if_neg h1)
            have e2 : k_kp (k_abort (ks_T P) b c 1 0) c j = _ := if_pos h3
            exact tk_vret X hlk hr d_Model_meet_92 rfl (fun _ h => h) (Or.inr rfl) (kw_st rfl (by rw [em, k_meet, e1]; refine Eq.trans ?_ (if_neg h2).symm; rw [e2]; rfl) rfl)
        · skip
          have e1 : k_meet1 (ks_T P) b c j true = (k_abort (ks_T P) b c 1 0) := (if_neg h1)
          exact tk_vret X hlk hr d_Model_meet_58 rfl (fun _ h => h) (Or.inr rfl) (kw_st rfl (by rw [em, k_meet, e1]; exact (if_pos h2).symm) rfl)
      · skip
        refine tk_iload_n X d_Model_meet_27 rfl rfl ?_
        refine tk_if_eq (tgt := 48) X d_Model_meet_28 (by decide) (fun h => absurd h (by decide)) (fun _ => ?_)
        refine tk_aload_n X d_Model_meet_31 rfl rfl ?_
        refine tk_get X (k := (12, 0, 0)) (dm := ks_dm P) (ks_d0 (by decide)) rfl hc_Model hi_Model 17 (by decide) m_Model_44 (v := .ref (tk_ad (ks_G P) (24, 0, 0))) rfl d_Model_meet_32 ?_
        refine tk_iload X d_Model_meet_35 rfl ?_
        refine kr_iald X (f := 24) (i' := 2) (by decide) (by decide) rfl (by decide) rfl (r_pj_lt hP hc hj) (ks_vk_pj hP hj) rfl d_Model_meet_37 ?_
        refine tk_if_eq (tgt := 48) X d_Model_meet_38 (by decide) (fun h4 => ?_) (fun h4 => ?_)
        · skip
          refine tk_aload_n X d_Model_meet_48 rfl rfl ?_
          refine tk_get X (k := (12, 0, 0)) (dm := ks_dm P) (ks_d0 (by decide)) rfl hc_Model hi_Model 15 (by decide) m_Model_38 (v := .ref (tk_ad (ks_G P) (22, 0, 0))) rfl d_Model_meet_49 ?_
          refine tk_iload X d_Model_meet_52 rfl ?_
          refine kr_iald X (f := 22) (i' := 0) (by decide) (by decide) rfl (by decide) rfl (r_pj_lt hP hc hj) (ks_vk_pj hP hj) rfl d_Model_meet_54 ?_
          refine tk_if_ne (tgt := 59) X d_Model_meet_55 (by decide) (fun h5 => ?_) (fun h5 => ?_)
          · skip
            refine tk_aload_n X d_Model_meet_59 rfl rfl ?_
            refine tk_get X (k := (12, 0, 0)) (dm := ks_dm P) (ks_d0 (by decide)) rfl hc_Model hi_Model 15 (by decide) m_Model_38 (v := .ref (tk_ad (ks_G P) (22, 0, 0))) rfl d_Model_meet_60 ?_
            refine tk_iload X d_Model_meet_63 rfl ?_
            refine kr_iald X (f := 22) (i' := 0) (by decide) (by decide) rfl (by decide) rfl (r_pj_lt hP hc hj) (ks_vk_pj hP hj) rfl d_Model_meet_65 ?_
            refine tk_iconst (v := 2) X d_Model_meet_66 (by decide) ?_
            refine tk_icmp_ne (tgt := 76) X d_Model_meet_67 (by decide) (fun h6 => ?_) (fun h6 => ?_)
            · skip
              refine tk_aload_n X d_Model_meet_76 rfl rfl ?_
              refine tk_get X (k := (12, 0, 0)) (dm := ks_dm P) (ks_d0 (by decide)) rfl hc_Model hi_Model 15 (by decide) m_Model_38 (v := .ref (tk_ad (ks_G P) (22, 0, 0))) rfl d_Model_meet_77 ?_
              refine tk_iload X d_Model_meet_80 rfl ?_
              refine tk_iload_n X d_Model_meet_82 rfl rfl ?_
              refine tk_if_eq (tgt := 90) X d_Model_meet_83 (by decide) (fun h => absurd h (by decide)) (fun _ => ?_)
              refine tk_iconst (v := 0) X d_Model_meet_86 (by decide) ?_
              refine tk_goto (tgt := 91) X d_Model_meet_87 (by decide) ?_
              refine kr_iast X hP (f := 22) (i' := 0) (by decide) (by decide) rfl (by decide) rfl (r_pj_lt hP hc hj) (ks_vk_pj hP hj) rfl d_Model_meet_91 ?_
              have e1 : k_meet1 (ks_T P) b c j true = b := (((if_pos h1).trans (if_pos rfl)).trans (if_pos h4))
              have e2 : k_kp b c j = _ := if_neg h6
              exact tk_vret X hlk hr d_Model_meet_92 rfl (fun _ h => h) (Or.inr rfl) (kw_st rfl (by rw [em, k_meet, e1]; refine Eq.trans ?_ (if_neg h5).symm; rw [e2]; rfl) rfl)
            · skip
              refine tk_aload_n X d_Model_meet_70 rfl rfl ?_
              refine tk_iload X d_Model_meet_71 rfl ?_
              refine tk_callV X (kb := (12, 0, 0)) (ks_d0 (by decide)) rfl hc_Model (c_Model_toMemory l P hP c j hc hj a b o hl) (ks_site (n := 1) mc_Model_toMemory mi_Model (by decide +kernel) (by decide) (by decide)) m_Model_81 ms_Model_toMemory mv_Model_toMemory rfl (Nat.le_of_ble_eq_true rfl) ⟨Nat.le_of_ble_eq_true rfl, Nat.le_of_ble_eq_true rfl⟩ rfl d_Model_meet_73 ?_
              refine tk_aload_n X d_Model_meet_76 rfl rfl ?_
              refine tk_get X (k := (12, 0, 0)) (dm := ks_dm P) (ks_d0 (by decide)) rfl hc_Model hi_Model 15 (by decide) m_Model_38 (v := .ref (tk_ad (ks_G P) (22, 0, 0))) rfl d_Model_meet_77 ?_
              refine tk_iload X d_Model_meet_80 rfl ?_
              refine tk_iload_n X d_Model_meet_82 rfl rfl ?_
              refine tk_if_eq (tgt := 90) X d_Model_meet_83 (by decide) (fun h => absurd h (by decide)) (fun _ => ?_)
              refine tk_iconst (v := 0) X d_Model_meet_86 (by decide) ?_
              refine tk_goto (tgt := 91) X d_Model_meet_87 (by decide) ?_
              refine kr_iast X hP (f := 22) (i' := 0) (by decide) (by decide) rfl (by decide) rfl (r_pj_lt hP hc hj) (ks_vk_pj hP hj) rfl d_Model_meet_91 ?_
              have e1 : k_meet1 (ks_T P) b c j true = b := (((if_pos h1).trans (if_pos rfl)).trans (if_pos h4))
              have e2 : k_kp b c j = _ := if_pos h6
              exact tk_vret X hlk hr d_Model_meet_92 rfl (fun _ h => h) (Or.inr rfl) (kw_st rfl (by rw [em, k_meet, e1]; refine Eq.trans ?_ (if_neg h5).symm; rw [e2]; rfl) rfl)
          · skip
            have e1 : k_meet1 (ks_T P) b c j true = b := (((if_pos h1).trans (if_pos rfl)).trans (if_pos h4))
            exact tk_vret X hlk hr d_Model_meet_58 rfl (fun _ h => h) (Or.inr rfl) (kw_st rfl (by rw [em, k_meet, e1]; exact (if_pos h5).symm) rfl)
        · skip
          refine tk_aload_n X d_Model_meet_41 rfl rfl ?_
          refine tk_iload_n X d_Model_meet_42 rfl rfl ?_
          refine tk_iconst (v := 1) X d_Model_meet_43 (by decide) ?_
          refine tk_iconst (v := 1) X d_Model_meet_44 (by decide) ?_
          refine tk_callV X (kb := (12, 0, 0)) (ks_d0 (by decide)) rfl hc_Model (c_Model_abortK l P hP c 1 hc (by decide) 0 1 (by decide) a b o hv.2.1) (ks_site (n := 3) mc_Model_abort mi_Model (by decide +kernel) (by decide) (by decide)) m_Model_77 ms_Model_abort mv_Model_abort rfl (Nat.le_of_ble_eq_true rfl) ⟨Nat.le_of_ble_eq_true rfl, Nat.le_of_ble_eq_true rfl⟩ rfl d_Model_meet_45 ?_
          refine tk_aload_n X d_Model_meet_48 rfl rfl ?_
          refine tk_get X (k := (12, 0, 0)) (dm := ks_dm P) (ks_d0 (by decide)) rfl hc_Model hi_Model 15 (by decide) m_Model_38 (v := .ref (tk_ad (ks_G P) (22, 0, 0))) rfl d_Model_meet_49 ?_
          refine tk_iload X d_Model_meet_52 rfl ?_
          refine kr_iald X (f := 22) (i' := 0) (by decide) (by decide) rfl (by decide) rfl (r_pj_lt hP hc hj) (ks_vk_pj hP hj) rfl d_Model_meet_54 ?_
          refine tk_if_ne (tgt := 59) X d_Model_meet_55 (by decide) (fun h7 => ?_) (fun h7 => ?_)
          · skip
            refine tk_aload_n X d_Model_meet_59 rfl rfl ?_
            refine tk_get X (k := (12, 0, 0)) (dm := ks_dm P) (ks_d0 (by decide)) rfl hc_Model hi_Model 15 (by decide) m_Model_38 (v := .ref (tk_ad (ks_G P) (22, 0, 0))) rfl d_Model_meet_60 ?_
            refine tk_iload X d_Model_meet_63 rfl ?_
            refine kr_iald X (f := 22) (i' := 0) (by decide) (by decide) rfl (by decide) rfl (r_pj_lt hP hc hj) (ks_vk_pj hP hj) rfl d_Model_meet_65 ?_
            refine tk_iconst (v := 2) X d_Model_meet_66 (by decide) ?_
            refine tk_icmp_ne (tgt := 76) X d_Model_meet_67 (by decide) (fun h8 => ?_) (fun h8 => ?_)
            · skip
              refine tk_aload_n X d_Model_meet_76 rfl rfl ?_
              refine tk_get X (k := (12, 0, 0)) (dm := ks_dm P) (ks_d0 (by decide)) rfl hc_Model hi_Model 15 (by decide) m_Model_38 (v := .ref (tk_ad (ks_G P) (22, 0, 0))) rfl d_Model_meet_77 ?_
              refine tk_iload X d_Model_meet_80 rfl ?_
              refine tk_iload_n X d_Model_meet_82 rfl rfl ?_
              refine tk_if_eq (tgt := 90) X d_Model_meet_83 (by decide) (fun h => absurd h (by decide)) (fun _ => ?_)
              refine tk_iconst (v := 0) X d_Model_meet_86 (by decide) ?_
              refine tk_goto (tgt := 91) X d_Model_meet_87 (by decide) ?_
              refine kr_iast X hP (f := 22) (i' := 0) (by decide) (by decide) rfl (by decide) rfl (r_pj_lt hP hc hj) (ks_vk_pj hP hj) rfl d_Model_meet_91 ?_
              have e1 : k_meet1 (ks_T P) b c j true = (k_abort (ks_T P) b c 1 0) := (((if_pos h1).trans (if_pos rfl)).trans (if_neg h4))
              have e2 : k_kp (k_abort (ks_T P) b c 1 0) c j = _ := if_neg h8
              exact tk_vret X hlk hr d_Model_meet_92 rfl (fun _ h => h) (Or.inr rfl) (kw_st rfl (by rw [em, k_meet, e1]; refine Eq.trans ?_ (if_neg h7).symm; rw [e2]; rfl) rfl)
            · skip
              refine tk_aload_n X d_Model_meet_70 rfl rfl ?_
              refine tk_iload X d_Model_meet_71 rfl ?_
              refine tk_callV X (kb := (12, 0, 0)) (ks_d0 (by decide)) rfl hc_Model (c_Model_toMemory l P hP c j hc hj a (k_abort (ks_T P) b c 1 0) o (by rw [k_abort_abv, k_ab_i _ _ _ _ _ _ _ (by decide) (by decide)]; exact hl)) (ks_site (n := 1) mc_Model_toMemory mi_Model (by decide +kernel) (by decide) (by decide)) m_Model_81 ms_Model_toMemory mv_Model_toMemory rfl (Nat.le_of_ble_eq_true rfl) ⟨Nat.le_of_ble_eq_true rfl, Nat.le_of_ble_eq_true rfl⟩ rfl d_Model_meet_73 ?_
              refine tk_aload_n X d_Model_meet_76 rfl rfl ?_
              refine tk_get X (k := (12, 0, 0)) (dm := ks_dm P) (ks_d0 (by decide)) rfl hc_Model hi_Model 15 (by decide) m_Model_38 (v := .ref (tk_ad (ks_G P) (22, 0, 0))) rfl d_Model_meet_77 ?_
              refine tk_iload X d_Model_meet_80 rfl ?_
              refine tk_iload_n X d_Model_meet_82 rfl rfl ?_
              refine tk_if_eq (tgt := 90) X d_Model_meet_83 (by decide) (fun h => absurd h (by decide)) (fun _ => ?_)
              refine tk_iconst (v := 0) X d_Model_meet_86 (by decide) ?_
              refine tk_goto (tgt := 91) X d_Model_meet_87 (by decide) ?_
              refine kr_iast X hP (f := 22) (i' := 0) (by decide) (by decide) rfl (by decide) rfl (r_pj_lt hP hc hj) (ks_vk_pj hP hj) rfl d_Model_meet_91 ?_
              have e1 : k_meet1 (ks_T P) b c j true = (k_abort (ks_T P) b c 1 0) := (((if_pos h1).trans (if_pos rfl)).trans (if_neg h4))
              have e2 : k_kp (k_abort (ks_T P) b c 1 0) c j = _ := if_pos h8
              exact tk_vret X hlk hr d_Model_meet_92 rfl (fun _ h => h) (Or.inr rfl) (kw_st rfl (by rw [em, k_meet, e1]; refine Eq.trans ?_ (if_neg h7).symm; rw [e2]; rfl) rfl)
          · skip
            have e1 : k_meet1 (ks_T P) b c j true = (k_abort (ks_T P) b c 1 0) := (((if_pos h1).trans (if_pos rfl)).trans (if_neg h4))
            exact tk_vret X hlk hr d_Model_meet_58 rfl (fun _ h => h) (Or.inr rfl) (kw_st rfl (by rw [em, k_meet, e1]; exact (if_pos h7).symm) rfl)

section LP
variable {p : Program} {l : Launch} {e : Env} {R : Room} {s : State} {m : MethodId} {args : Array Value} {below : List Frame} {meth : Method} {c0 : Code} {P : ks_P} {cells slots : Nat} {Q : State → Prop}
set_option maxRecDepth 100000 in
set_option maxHeartbeats 4000000 in
theorem tl_m275 (X : tk_X p m c0 s args (ks_G P) R_Model b_Model_access 7 WS) (hP : ks_ok P) {c j y : Nat} (hc : c < ks_n P) (hj : j < ks_T P) (hy : y < 32) (w had : Bool) (a b : ks_M) (o : ks_O) (kend : ∀ t6, tk_go p l e (ks_rm 3) s m args below meth c0 (ks_G P) (ks_dm P) 7 0 0 Q (ks_sl P a (k_us b c j) o) 298 [some (.ref (tk_ad (ks_G P) (12, 0, 0))), some (.int (nI c)), some (.int (nI y)), some (.int (q_b w)), some (.int (nI (r_pj (ks_W P) c j))), some (.int (q_b had)), t6] [.int (nI (r_pj (ks_W P) c j))]) (t6 : Option Value) : tk_go p l e (ks_rm 3) s m args below meth c0 (ks_G P) (ks_dm P) 7 0 0 Q (ks_sl P a b o) 275 [some (.ref (tk_ad (ks_G P) (12, 0, 0))), some (.int (nI c)), some (.int (nI y)), some (.int (q_b w)), some (.int (nI (r_pj (ks_W P) c j))), some (.int (q_b had)), t6] [] := by
  have hn64 := ks_n64 hP
  have hT64 := ks_T64 hP
  have hc3 : c < 3 := by have := hP.2.1; omega
  refine tk_aload_n X d_Model_access_275 rfl rfl ?_
  refine tk_dup X rfl d_Model_access_276 ?_
  refine tk_get X (k := (12, 0, 0)) (dm := ks_dm P) (ks_d0 (by decide)) rfl hc_Model hi_Model 4 (by decide) m_Model_95 (v := .int _) rfl d_Model_access_277 ?_
  refine tk_iconst (v := 1) X d_Model_access_280 (by decide) ?_
  refine tk_iadd X d_Model_access_281 ?_
  refine kr_put X hc_Model hi_Model t_Model t_Model_ok n_Model 4 (by decide) (by decide) m_Model_95 rfl rfl rfl d_Model_access_282 ?_
  refine tk_aload_n X d_Model_access_285 rfl rfl ?_
  refine tk_get X (k := (12, 0, 0)) (dm := ks_dm P) (ks_d0 (by decide)) rfl hc_Model hi_Model 20 (by decide) m_Model_53 (v := .ref (tk_ad (ks_G P) (27, 0, 0))) rfl d_Model_access_286 ?_
  refine tk_iload X d_Model_access_289 rfl ?_
  refine tk_aload_n X d_Model_access_291 rfl rfl ?_
  refine tk_get X (k := (12, 0, 0)) (dm := ks_dm P) (ks_d0 (by decide)) rfl hc_Model hi_Model 4 (by decide) m_Model_95 (v := .int _) rfl d_Model_access_292 ?_
  refine kr_iast X hP (f := 27) (i' := 5) (by decide) (by decide) rfl (by decide) rfl (r_pj_lt hP hc hj) (ks_vk_pj hP hj) rfl d_Model_access_295 ?_
  refine tk_iload X d_Model_access_296 rfl ?_
  exact kend t6
end LP

section LP
variable {p : Program} {l : Launch} {e : Env} {R : Room} {s : State} {m : MethodId} {args : Array Value} {below : List Frame} {meth : Method} {c0 : Code} {P : ks_P} {cells slots : Nat} {Q : State → Prop}
set_option maxRecDepth 100000 in
set_option maxHeartbeats 4000000 in
theorem tl_m189 (X : tk_X p m c0 s args (ks_G P) R_Model b_Model_access 7 WS) (hP : ks_ok P) {c j y : Nat} (hc : c < ks_n P) (hj : j < ks_T P) (hy : y < 32) (w had : Bool) (a b : ks_M) (o : ks_O) (hl : q_lin (b (7, c, j) 1)) (kend : ∀ t6, tk_go p l e (ks_rm 3) s m args below meth c0 (ks_G P) (ks_dm P) 7 0 0 Q (ks_sl P a (k_us (k_mk (k_md b c j w) c j w) c j) o) 298 [some (.ref (tk_ad (ks_G P) (12, 0, 0))), some (.int (nI c)), some (.int (nI y)), some (.int (q_b w)), some (.int (nI (r_pj (ks_W P) c j))), some (.int (q_b had)), t6] [.int (nI (r_pj (ks_W P) c j))]) (t6 : Option Value) : tk_go p l e (ks_rm 3) s m args below meth c0 (ks_G P) (ks_dm P) 7 0 0 Q (ks_sl P a b o) 189 [some (.ref (tk_ad (ks_G P) (12, 0, 0))), some (.int (nI c)), some (.int (nI y)), some (.int (q_b w)), some (.int (nI (r_pj (ks_W P) c j))), some (.int (q_b had)), t6] [] := by
  have hn64 := ks_n64 hP
  have hT64 := ks_T64 hP
  have hc3 : c < 3 := by have := hP.2.1; omega
  cases w with
  | false =>
    refine tk_aload_n X d_Model_access_189 rfl rfl ?_
    refine tk_get X (k := (12, 0, 0)) (dm := ks_dm P) (ks_d0 (by decide)) rfl hc_Model hi_Model 11 (by decide) m_Model_25 (v := .ref (tk_ad (ks_G P) (18, 0, 0))) rfl d_Model_access_190 ?_
    refine tk_iload_n X d_Model_access_193 rfl rfl ?_
    refine kr_iald X (f := 18) (i' := 8) (k' := (4, c, 0)) (by decide) (by decide) rfl (by decide) rfl hc3 rfl rfl d_Model_access_194 ?_
    refine tk_if_le (tgt := 202) X d_Model_access_195 (by decide) (fun h1 => ?_) (fun h1 => ?_)
    · skip
      refine tk_iconst (v := 0) X d_Model_access_202 (by decide) ?_
      refine tk_istore X d_Model_access_203 (by decide) rfl ?_
      refine tk_iload_n X d_Model_access_205 rfl rfl ?_
      refine tk_if_eq (tgt := 251) X d_Model_access_206 (by decide) (fun _ => ?_) (fun h => absurd (by decide) h)
      refine tk_iload X d_Model_access_251 rfl ?_
      refine tk_if_eq (tgt := 275) X d_Model_access_253 (by decide) (fun _ => ?_) (fun h => absurd (by decide) h)
      have e1 : k_md b c j false = b := if_neg (by decide)
      have e2 : k_mk b c j false = b := if_pos h1
      rw [e1, e2] at kend
      exact tl_m275 X hP hc hj hy _ _ a _ o kend _
    · skip
      refine tk_iconst (v := 1) X d_Model_access_198 (by decide) ?_
      refine tk_goto (tgt := 203) X d_Model_access_199 (by decide) ?_
      refine tk_istore X d_Model_access_203 (by decide) rfl ?_
      refine tk_iload_n X d_Model_access_205 rfl rfl ?_
      refine tk_if_eq (tgt := 251) X d_Model_access_206 (by decide) (fun _ => ?_) (fun h => absurd (by decide) h)
      refine tk_iload X d_Model_access_251 rfl ?_
      refine tk_if_eq (tgt := 275) X d_Model_access_253 (by decide) (fun h => absurd h (by decide)) (fun _ => ?_)
      refine tk_aload_n X d_Model_access_256 rfl rfl ?_
      refine tk_get X (k := (12, 0, 0)) (dm := ks_dm P) (ks_d0 (by decide)) rfl hc_Model hi_Model 17 (by decide) m_Model_44 (v := .ref (tk_ad (ks_G P) (24, 0, 0))) rfl d_Model_access_257 ?_
      refine tk_iload X d_Model_access_260 rfl ?_
      refine tk_dup2 X rfl rfl d_Model_access_262 ?_
      refine kr_iald X (f := 24) (i' := 2) (by decide) (by decide) rfl (by decide) rfl (r_pj_lt hP hc hj) (ks_vk_pj hP hj) rfl d_Model_access_263 ?_
      refine tk_iload_n X d_Model_access_264 rfl rfl ?_
      refine tk_if_eq (tgt := 272) X d_Model_access_265 (by decide) (fun _ => ?_) (fun h => absurd (by decide) h)
      refine tk_iconst (v := 1) X d_Model_access_272 (by decide) ?_
      refine tk_ior X d_Model_access_273 ?_
      refine kr_iast X hP (f := 24) (i' := 2) (by decide) (by decide) rfl (by decide) rfl (r_pj_lt hP hc hj) (ks_vk_pj hP hj) rfl d_Model_access_274 ?_
      have e1 : k_md b c j false = b := if_neg (by decide)
      have e2 : k_mk b c j false = ks_up b (7, c, j) 2 (b (7, c, j) 2 ||| 1) := if_neg h1
      rw [e1, e2] at kend
      exact tl_m275 X hP hc hj hy _ _ a _ o kend _
  | true =>
    refine tk_aload_n X d_Model_access_189 rfl rfl ?_
    refine tk_get X (k := (12, 0, 0)) (dm := ks_dm P) (ks_d0 (by decide)) rfl hc_Model hi_Model 11 (by decide) m_Model_25 (v := .ref (tk_ad (ks_G P) (18, 0, 0))) rfl d_Model_access_190 ?_
    refine tk_iload_n X d_Model_access_193 rfl rfl ?_
    refine kr_iald X (f := 18) (i' := 8) (k' := (4, c, 0)) (by decide) (by decide) rfl (by decide) rfl hc3 rfl rfl d_Model_access_194 ?_
    refine tk_if_le (tgt := 202) X d_Model_access_195 (by decide) (fun h1 => ?_) (fun h1 => ?_)
    · skip
      refine tk_iconst (v := 0) X d_Model_access_202 (by decide) ?_
      refine tk_istore X d_Model_access_203 (by decide) rfl ?_
      refine tk_iload_n X d_Model_access_205 rfl rfl ?_
      refine tk_if_eq (tgt := 251) X d_Model_access_206 (by decide) (fun h => absurd h (by decide)) (fun _ => ?_)
      refine tk_iload X d_Model_access_209 rfl ?_
      refine tk_if_eq (tgt := 243) X d_Model_access_211 (by decide) (fun _ => ?_) (fun h => absurd (by decide) h)
      refine tk_aload_n X d_Model_access_243 rfl rfl ?_
      refine tk_get X (k := (12, 0, 0)) (dm := ks_dm P) (ks_d0 (by decide)) rfl hc_Model hi_Model 15 (by decide) m_Model_38 (v := .ref (tk_ad (ks_G P) (22, 0, 0))) rfl d_Model_access_244 ?_
      refine tk_iload X d_Model_access_247 rfl ?_
      refine tk_iconst (v := 2) X d_Model_access_249 (by decide) ?_
      refine kr_iast X hP (f := 22) (i' := 0) (by decide) (by decide) rfl (by decide) rfl (r_pj_lt hP hc hj) (ks_vk_pj hP hj) rfl d_Model_access_250 ?_
      refine tk_iload X d_Model_access_251 rfl ?_
      refine tk_if_eq (tgt := 275) X d_Model_access_253 (by decide) (fun _ => ?_) (fun h => absurd (by decide) h)
      have e1 : k_md b c j true = ks_up b (7, c, j) 0 2 := (if_pos rfl).trans (if_pos h1)
      have e2 : k_mk (ks_up b (7, c, j) 0 2) c j true = ks_up b (7, c, j) 0 2 := if_pos (by rw [ks_up_nk _ _ (by simp)]; exact h1)
      rw [e1, e2] at kend
      exact tl_m275 X hP hc hj hy _ _ a _ o kend _
    · skip
      refine tk_iconst (v := 1) X d_Model_access_198 (by decide) ?_
      refine tk_goto (tgt := 203) X d_Model_access_199 (by decide) ?_
      refine tk_istore X d_Model_access_203 (by decide) rfl ?_
      refine tk_iload_n X d_Model_access_205 rfl rfl ?_
      refine tk_if_eq (tgt := 251) X d_Model_access_206 (by decide) (fun h => absurd h (by decide)) (fun _ => ?_)
      refine tk_iload X d_Model_access_209 rfl ?_
      refine tk_if_eq (tgt := 243) X d_Model_access_211 (by decide) (fun h => absurd h (by decide)) (fun _ => ?_)
      refine tk_aload_n X d_Model_access_214 rfl rfl ?_
      refine tk_get X (k := (12, 0, 0)) (dm := ks_dm P) (ks_d0 (by decide)) rfl hc_Model hi_Model 15 (by decide) m_Model_38 (v := .ref (tk_ad (ks_G P) (22, 0, 0))) rfl d_Model_access_215 ?_
      refine tk_iload X d_Model_access_218 rfl ?_
      refine kr_iald X (f := 22) (i' := 0) (by decide) (by decide) rfl (by decide) rfl (r_pj_lt hP hc hj) (ks_vk_pj hP hj) rfl d_Model_access_220 ?_
      refine tk_iconst (v := 2) X d_Model_access_221 (by decide) ?_
      refine tk_icmp_ne (tgt := 243) X d_Model_access_222 (by decide) (fun h2 => ?_) (fun h2 => ?_)
      · skip
        refine tk_aload_n X d_Model_access_243 rfl rfl ?_
        refine tk_get X (k := (12, 0, 0)) (dm := ks_dm P) (ks_d0 (by decide)) rfl hc_Model hi_Model 15 (by decide) m_Model_38 (v := .ref (tk_ad (ks_G P) (22, 0, 0))) rfl d_Model_access_244 ?_
        refine tk_iload X d_Model_access_247 rfl ?_
        refine tk_iconst (v := 2) X d_Model_access_249 (by decide) ?_
        refine kr_iast X hP (f := 22) (i' := 0) (by decide) (by decide) rfl (by decide) rfl (r_pj_lt hP hc hj) (ks_vk_pj hP hj) rfl d_Model_access_250 ?_
        refine tk_iload X d_Model_access_251 rfl ?_
        refine tk_if_eq (tgt := 275) X d_Model_access_253 (by decide) (fun h => absurd h (by decide)) (fun _ => ?_)
        refine tk_aload_n X d_Model_access_256 rfl rfl ?_
        refine tk_get X (k := (12, 0, 0)) (dm := ks_dm P) (ks_d0 (by decide)) rfl hc_Model hi_Model 17 (by decide) m_Model_44 (v := .ref (tk_ad (ks_G P) (24, 0, 0))) rfl d_Model_access_257 ?_
        refine tk_iload X d_Model_access_260 rfl ?_
        refine tk_dup2 X rfl rfl d_Model_access_262 ?_
        refine kr_iald X (f := 24) (i' := 2) (by decide) (by decide) rfl (by decide) rfl (r_pj_lt hP hc hj) (ks_vk_pj hP hj) rfl d_Model_access_263 ?_
        refine tk_iload_n X d_Model_access_264 rfl rfl ?_
        refine tk_if_eq (tgt := 272) X d_Model_access_265 (by decide) (fun h => absurd h (by decide)) (fun _ => ?_)
        refine tk_iconst (v := 2) X d_Model_access_268 (by decide) ?_
        refine tk_goto (tgt := 273) X d_Model_access_269 (by decide) ?_
        refine tk_ior X d_Model_access_273 ?_
        refine kr_iast X hP (f := 24) (i' := 2) (by decide) (by decide) rfl (by decide) rfl (r_pj_lt hP hc hj) (ks_vk_pj hP hj) rfl d_Model_access_274 ?_
        have e3 : k_kp2 b c j true = b := ((if_pos rfl).trans (if_neg h2))
        have e1 : k_md b c j true = ks_up b (7, c, j) 0 2 := ((if_pos rfl).trans (if_neg h1)).trans (by unfold k_modify; rw [e3])
        have e2 : k_mk (ks_up b (7, c, j) 0 2) c j true = ks_up (ks_up b (7, c, j) 0 2) (7, c, j) 2 ((ks_up b (7, c, j) 0 2) (7, c, j) 2 ||| 2) := if_neg (by rw [ks_up_nk _ _ (by simp)]; exact h1)
        rw [e1, e2] at kend
        exact tl_m275 X hP hc hj hy _ _ a _ o kend _
      · skip
        refine tk_aload_n X d_Model_access_225 rfl rfl ?_
        refine tk_get X (k := (12, 0, 0)) (dm := ks_dm P) (ks_d0 (by decide)) rfl hc_Model hi_Model 17 (by decide) m_Model_44 (v := .ref (tk_ad (ks_G P) (24, 0, 0))) rfl d_Model_access_226 ?_
        refine tk_iload X d_Model_access_229 rfl ?_
        refine kr_iald X (f := 24) (i' := 2) (by decide) (by decide) rfl (by decide) rfl (r_pj_lt hP hc hj) (ks_vk_pj hP hj) rfl d_Model_access_231 ?_
        refine tk_iconst (v := 2) X d_Model_access_232 (by decide) ?_
        refine tk_iand X d_Model_access_233 ?_
        refine tk_if_ne (tgt := 243) X d_Model_access_234 (by decide) (fun h3 => ?_) (fun h3 => ?_)
        · skip
          refine tk_aload_n X d_Model_access_243 rfl rfl ?_
          refine tk_get X (k := (12, 0, 0)) (dm := ks_dm P) (ks_d0 (by decide)) rfl hc_Model hi_Model 15 (by decide) m_Model_38 (v := .ref (tk_ad (ks_G P) (22, 0, 0))) rfl d_Model_access_244 ?_
          refine tk_iload X d_Model_access_247 rfl ?_
          refine tk_iconst (v := 2) X d_Model_access_249 (by decide) ?_
          refine kr_iast X hP (f := 22) (i' := 0) (by decide) (by decide) rfl (by decide) rfl (r_pj_lt hP hc hj) (ks_vk_pj hP hj) rfl d_Model_access_250 ?_
          refine tk_iload X d_Model_access_251 rfl ?_
          refine tk_if_eq (tgt := 275) X d_Model_access_253 (by decide) (fun h => absurd h (by decide)) (fun _ => ?_)
          refine tk_aload_n X d_Model_access_256 rfl rfl ?_
          refine tk_get X (k := (12, 0, 0)) (dm := ks_dm P) (ks_d0 (by decide)) rfl hc_Model hi_Model 17 (by decide) m_Model_44 (v := .ref (tk_ad (ks_G P) (24, 0, 0))) rfl d_Model_access_257 ?_
          refine tk_iload X d_Model_access_260 rfl ?_
          refine tk_dup2 X rfl rfl d_Model_access_262 ?_
          refine kr_iald X (f := 24) (i' := 2) (by decide) (by decide) rfl (by decide) rfl (r_pj_lt hP hc hj) (ks_vk_pj hP hj) rfl d_Model_access_263 ?_
          refine tk_iload_n X d_Model_access_264 rfl rfl ?_
          refine tk_if_eq (tgt := 272) X d_Model_access_265 (by decide) (fun h => absurd h (by decide)) (fun _ => ?_)
          refine tk_iconst (v := 2) X d_Model_access_268 (by decide) ?_
          refine tk_goto (tgt := 273) X d_Model_access_269 (by decide) ?_
          refine tk_ior X d_Model_access_273 ?_
          refine kr_iast X hP (f := 24) (i' := 2) (by decide) (by decide) rfl (by decide) rfl (r_pj_lt hP hc hj) (ks_vk_pj hP hj) rfl d_Model_access_274 ?_
          have e3 : k_kp2 b c j true = b := (((if_pos rfl).trans (if_pos h2)).trans (if_neg h3))
          have e1 : k_md b c j true = ks_up b (7, c, j) 0 2 := ((if_pos rfl).trans (if_neg h1)).trans (by unfold k_modify; rw [e3])
          have e2 : k_mk (ks_up b (7, c, j) 0 2) c j true = ks_up (ks_up b (7, c, j) 0 2) (7, c, j) 2 ((ks_up b (7, c, j) 0 2) (7, c, j) 2 ||| 2) := if_neg (by rw [ks_up_nk _ _ (by simp)]; exact h1)
          rw [e1, e2] at kend
          exact tl_m275 X hP hc hj hy _ _ a _ o kend _
        · skip
          refine tk_aload_n X d_Model_access_237 rfl rfl ?_
          refine tk_iload X d_Model_access_238 rfl ?_
          refine tk_callV X (kb := (12, 0, 0)) (ks_d0 (by decide)) rfl hc_Model (c_Model_toMemory l P hP c j hc hj a b o hl) (ks_site (n := 1) mc_Model_toMemory mi_Model (by decide +kernel) (by decide) (by decide)) m_Model_81 ms_Model_toMemory mv_Model_toMemory rfl (Nat.le_of_ble_eq_true rfl) ⟨Nat.le_of_ble_eq_true rfl, Nat.le_of_ble_eq_true rfl⟩ rfl d_Model_access_240 ?_
          refine tk_aload_n X d_Model_access_243 rfl rfl ?_
          refine tk_get X (k := (12, 0, 0)) (dm := ks_dm P) (ks_d0 (by decide)) rfl hc_Model hi_Model 15 (by decide) m_Model_38 (v := .ref (tk_ad (ks_G P) (22, 0, 0))) rfl d_Model_access_244 ?_
          refine tk_iload X d_Model_access_247 rfl ?_
          refine tk_iconst (v := 2) X d_Model_access_249 (by decide) ?_
          refine kr_iast X hP (f := 22) (i' := 0) (by decide) (by decide) rfl (by decide) rfl (r_pj_lt hP hc hj) (ks_vk_pj hP hj) rfl d_Model_access_250 ?_
          refine tk_iload X d_Model_access_251 rfl ?_
          refine tk_if_eq (tgt := 275) X d_Model_access_253 (by decide) (fun h => absurd h (by decide)) (fun _ => ?_)
          refine tk_aload_n X d_Model_access_256 rfl rfl ?_
          refine tk_get X (k := (12, 0, 0)) (dm := ks_dm P) (ks_d0 (by decide)) rfl hc_Model hi_Model 17 (by decide) m_Model_44 (v := .ref (tk_ad (ks_G P) (24, 0, 0))) rfl d_Model_access_257 ?_
          refine tk_iload X d_Model_access_260 rfl ?_
          refine tk_dup2 X rfl rfl d_Model_access_262 ?_
          refine kr_iald X (f := 24) (i' := 2) (by decide) (by decide) rfl (by decide) rfl (r_pj_lt hP hc hj) (ks_vk_pj hP hj) rfl d_Model_access_263 ?_
          refine tk_iload_n X d_Model_access_264 rfl rfl ?_
          refine tk_if_eq (tgt := 272) X d_Model_access_265 (by decide) (fun h => absurd h (by decide)) (fun _ => ?_)
          refine tk_iconst (v := 2) X d_Model_access_268 (by decide) ?_
          refine tk_goto (tgt := 273) X d_Model_access_269 (by decide) ?_
          refine tk_ior X d_Model_access_273 ?_
          refine kr_iast X hP (f := 24) (i' := 2) (by decide) (by decide) rfl (by decide) rfl (r_pj_lt hP hc hj) (ks_vk_pj hP hj) rfl d_Model_access_274 ?_
          have e3 : k_kp2 b c j true = (k_keep b c j) := (((if_pos rfl).trans (if_pos h2)).trans (if_pos h3))
          have e1 : k_md b c j true = ks_up (k_keep b c j) (7, c, j) 0 2 := ((if_pos rfl).trans (if_neg h1)).trans (by unfold k_modify; rw [e3])
          have e2 : k_mk (ks_up (k_keep b c j) (7, c, j) 0 2) c j true = ks_up (ks_up (k_keep b c j) (7, c, j) 0 2) (7, c, j) 2 ((ks_up (k_keep b c j) (7, c, j) 0 2) (7, c, j) 2 ||| 2) := if_neg (by rw [ks_up_nk _ _ (by simp), k_keep_ne _ _ _ _ (by simp)]; exact h1)
          rw [e1, e2] at kend
          exact tl_m275 X hP hc hj hy _ _ a _ o kend _
end LP

section LP
variable {p : Program} {l : Launch} {e : Env} {R : Room} {s : State} {m : MethodId} {args : Array Value} {below : List Frame} {meth : Method} {c0 : Code} {P : ks_P} {cells slots : Nat} {Q : State → Prop}
set_option maxRecDepth 100000 in
set_option maxHeartbeats 4000000 in
theorem tl_m111true (X : tk_X p m c0 s args (ks_G P) R_Model b_Model_access 7 WS) (hP : ks_ok P) {c j y : Nat} (hc : c < ks_n P) (hj : j < ks_T P) (hy : y < 32) (w : Bool) (a b : ks_M) (o : ks_O) (hl : q_lin (b (7, c, j) 1)) (kend : ∀ t6, tk_go p l e (ks_rm 3) s m args below meth c0 (ks_G P) (ks_dm P) 7 0 0 Q (ks_sl P a (k_us (k_mk (k_md (k_rf b c j y true) c j w) c j w) c j) o) 298 [some (.ref (tk_ad (ks_G P) (12, 0, 0))), some (.int (nI c)), some (.int (nI y)), some (.int (q_b w)), some (.int (nI (r_pj (ks_W P) c j))), some (.int (q_b true)), t6] [.int (nI (r_pj (ks_W P) c j))]) (t6 : Option Value) : tk_go p l e (ks_rm 3) s m args below meth c0 (ks_G P) (ks_dm P) 7 0 0 Q (ks_sl P a b o) 111 [some (.ref (tk_ad (ks_G P) (12, 0, 0))), some (.int (nI c)), some (.int (nI y)), some (.int (q_b w)), some (.int (nI (r_pj (ks_W P) c j))), some (.int (q_b true)), t6] [] := by
  have hn64 := ks_n64 hP
  have hT64 := ks_T64 hP
  have hc3 : c < 3 := by have := hP.2.1; omega
  refine tk_iload X d_Model_access_111 rfl ?_
  refine tk_if_ne (tgt := 189) X d_Model_access_113 (by decide) (fun _ => ?_) (fun h => absurd h (by decide))
  have e1 : k_rf b c j y true = b := if_pos rfl
  rw [e1] at kend
  exact tl_m189 X hP hc hj hy _ _ a b o hl kend _
end LP

section LP
variable {p : Program} {l : Launch} {e : Env} {R : Room} {s : State} {m : MethodId} {args : Array Value} {below : List Frame} {meth : Method} {c0 : Code} {P : ks_P} {cells slots : Nat} {Q : State → Prop}
set_option maxRecDepth 100000 in
set_option maxHeartbeats 4000000 in
theorem tl_m111false (X : tk_X p m c0 s args (ks_G P) R_Model b_Model_access 7 WS) (hP : ks_ok P) {c j y : Nat} (hc : c < ks_n P) (hj : j < ks_T P) (hy : y < 32) (w : Bool) (a b : ks_M) (o : ks_O) (hl : q_lin (b (7, c, j) 1)) (hm : b (7, c, j) 2 = 0) (kend : ∀ t6, tk_go p l e (ks_rm 3) s m args below meth c0 (ks_G P) (ks_dm P) 7 0 0 Q (ks_sl P a (k_us (k_mk (k_md (k_rf b c j y false) c j w) c j w) c j) o) 298 [some (.ref (tk_ad (ks_G P) (12, 0, 0))), some (.int (nI c)), some (.int (nI y)), some (.int (q_b w)), some (.int (nI (r_pj (ks_W P) c j))), some (.int (q_b false)), t6] [.int (nI (r_pj (ks_W P) c j))]) (t6 : Option Value) : tk_go p l e (ks_rm 3) s m args below meth c0 (ks_G P) (ks_dm P) 7 0 0 Q (ks_sl P a b o) 111 [some (.ref (tk_ad (ks_G P) (12, 0, 0))), some (.int (nI c)), some (.int (nI y)), some (.int (q_b w)), some (.int (nI (r_pj (ks_W P) c j))), some (.int (q_b false)), t6] [] := by
  have hn64 := ks_n64 hP
  have hT64 := ks_T64 hP
  have hc3 : c < 3 := by have := hP.2.1; omega
  refine tk_iload X d_Model_access_111 rfl ?_
  refine tk_if_ne (tgt := 189) X d_Model_access_113 (by decide) (fun h => absurd (by decide) h) (fun _ => ?_)
  refine tk_aload_n X d_Model_access_116 rfl rfl ?_
  refine tk_get X (k := (12, 0, 0)) (dm := ks_dm P) (ks_d0 (by decide)) rfl hc_Model hi_Model 15 (by decide) m_Model_38 (v := .ref (tk_ad (ks_G P) (22, 0, 0))) rfl d_Model_access_117 ?_
  refine tk_iload X d_Model_access_120 rfl ?_
  refine kr_iald X (f := 22) (i' := 0) (by decide) (by decide) rfl (by decide) rfl (r_pj_lt hP hc hj) (ks_vk_pj hP hj) rfl d_Model_access_122 ?_
  refine tk_iconst (v := 2) X d_Model_access_123 (by decide) ?_
  refine tk_icmp_ne (tgt := 133) X d_Model_access_124 (by decide) (fun h1 => ?_) (fun h1 => ?_)
  · skip
    refine tk_aload_n X d_Model_access_133 rfl rfl ?_
    refine tk_get X (k := (12, 0, 0)) (dm := ks_dm P) (ks_d0 (by decide)) rfl hc_Model hi_Model 15 (by decide) m_Model_38 (v := .ref (tk_ad (ks_G P) (22, 0, 0))) rfl d_Model_access_134 ?_
    refine tk_iload X d_Model_access_137 rfl ?_
    refine tk_iconst (v := 1) X d_Model_access_139 (by decide) ?_
    refine kr_iast X hP (f := 22) (i' := 0) (by decide) (by decide) rfl (by decide) rfl (r_pj_lt hP hc hj) (ks_vk_pj hP hj) rfl d_Model_access_140 ?_
    refine tk_aload_n X d_Model_access_141 rfl rfl ?_
    refine tk_get X (k := (12, 0, 0)) (dm := ks_dm P) (ks_d0 (by decide)) rfl hc_Model hi_Model 16 (by decide) m_Model_41 (v := .ref (tk_ad (ks_G P) (23, 0, 0))) rfl d_Model_access_142 ?_
    refine tk_iload X d_Model_access_145 rfl ?_
    refine tk_iload_n X d_Model_access_147 rfl rfl ?_
    refine kr_iast X hP (f := 23) (i' := 1) (by decide) (by decide) rfl (by decide) rfl (r_pj_lt hP hc hj) (ks_vk_pj hP hj) rfl d_Model_access_148 ?_
    refine tk_aload_n X d_Model_access_149 rfl rfl ?_
    refine tk_get X (k := (12, 0, 0)) (dm := ks_dm P) (ks_d0 (by decide)) rfl hc_Model hi_Model 17 (by decide) m_Model_44 (v := .ref (tk_ad (ks_G P) (24, 0, 0))) rfl d_Model_access_150 ?_
    refine tk_iload X d_Model_access_153 rfl ?_
    refine tk_iconst (v := 0) X d_Model_access_155 (by decide) ?_
    refine kr_iast X hP (f := 24) (i' := 2) (by decide) (by decide) rfl (by decide) rfl (r_pj_lt hP hc hj) (ks_vk_pj hP hj) rfl d_Model_access_156 ?_
    refine tk_aload_n X d_Model_access_157 rfl rfl ?_
    refine tk_get X (k := (12, 0, 0)) (dm := ks_dm P) (ks_d0 (by decide)) rfl hc_Model hi_Model 18 (by decide) m_Model_47 (v := .ref (tk_ad (ks_G P) (25, 0, 0))) rfl d_Model_access_158 ?_
    refine tk_iload X d_Model_access_161 rfl ?_
    refine tk_aload_n X d_Model_access_163 rfl rfl ?_
    refine tk_get X (k := (12, 0, 0)) (dm := ks_dm P) (ks_d0 (by decide)) rfl hc_Model hi_Model 6 (by decide) m_Model_7 (v := .ref (tk_ad (ks_G P) (13, 0, 0))) rfl d_Model_access_164 ?_
    refine tk_iconst (v := 2) X d_Model_access_167 (by decide) ?_
    refine tk_iload_n X d_Model_access_168 rfl rfl ?_
    refine tk_imul X d_Model_access_169 ?_
    refine kr_iald X (f := 13) (i' := (2 * y)) (k' := (2, 0, 0)) (by decide) (by decide) rfl (by decide) (by rw [show (2 : Int32) = nI 2 from rfl, pk_mul]) (by omega) rfl rfl d_Model_access_170 ?_
    refine kr_iast X hP (f := 25) (i' := 3) (by decide) (by decide) rfl (by decide) rfl (r_pj_lt hP hc hj) (ks_vk_pj hP hj) rfl d_Model_access_171 ?_
    refine tk_aload_n X d_Model_access_172 rfl rfl ?_
    refine tk_get X (k := (12, 0, 0)) (dm := ks_dm P) (ks_d0 (by decide)) rfl hc_Model hi_Model 19 (by decide) m_Model_50 (v := .ref (tk_ad (ks_G P) (26, 0, 0))) rfl d_Model_access_173 ?_
    refine tk_iload X d_Model_access_176 rfl ?_
    refine tk_aload_n X d_Model_access_178 rfl rfl ?_
    refine tk_get X (k := (12, 0, 0)) (dm := ks_dm P) (ks_d0 (by decide)) rfl hc_Model hi_Model 6 (by decide) m_Model_7 (v := .ref (tk_ad (ks_G P) (13, 0, 0))) rfl d_Model_access_179 ?_
    refine tk_iconst (v := 2) X d_Model_access_182 (by decide) ?_
    refine tk_iload_n X d_Model_access_183 rfl rfl ?_
    refine tk_imul X d_Model_access_184 ?_
    refine tk_iconst (v := 1) X d_Model_access_185 (by decide) ?_
    refine tk_iadd X d_Model_access_186 ?_
    refine kr_iald X (f := 13) (i' := (2 * y + 1)) (k' := (2, 0, 0)) (by decide) (by decide) rfl (by decide) (by rw [show (2 : Int32) = nI 2 from rfl, pk_mul, nI_1]) (by omega) rfl rfl d_Model_access_187 ?_
    refine kr_iast X hP (f := 26) (i' := 4) (by decide) (by decide) rfl (by decide) rfl (r_pj_lt hP hc hj) (ks_vk_pj hP hj) rfl d_Model_access_188 ?_
    have e1 : k_kp b c j = _ := if_neg h1
    have e3 : k_rf b c j y false = _ := (if_neg (by decide)).trans (r_fill2 hy hm e1).symm
    rw [e3] at kend
    exact tl_m189 X hP hc hj hy _ _ a _ o ⟨y, hy, r_fl1 _ c j y⟩ kend _
  · skip
    refine tk_aload_n X d_Model_access_127 rfl rfl ?_
    refine tk_iload X d_Model_access_128 rfl ?_
    refine tk_callV X (kb := (12, 0, 0)) (ks_d0 (by decide)) rfl hc_Model (c_Model_toMemory l P hP c j hc hj a b o hl) (ks_site (n := 1) mc_Model_toMemory mi_Model (by decide +kernel) (by decide) (by decide)) m_Model_81 ms_Model_toMemory mv_Model_toMemory rfl (Nat.le_of_ble_eq_true rfl) ⟨Nat.le_of_ble_eq_true rfl, Nat.le_of_ble_eq_true rfl⟩ rfl d_Model_access_130 ?_
    refine tk_aload_n X d_Model_access_133 rfl rfl ?_
    refine tk_get X (k := (12, 0, 0)) (dm := ks_dm P) (ks_d0 (by decide)) rfl hc_Model hi_Model 15 (by decide) m_Model_38 (v := .ref (tk_ad (ks_G P) (22, 0, 0))) rfl d_Model_access_134 ?_
    refine tk_iload X d_Model_access_137 rfl ?_
    refine tk_iconst (v := 1) X d_Model_access_139 (by decide) ?_
    refine kr_iast X hP (f := 22) (i' := 0) (by decide) (by decide) rfl (by decide) rfl (r_pj_lt hP hc hj) (ks_vk_pj hP hj) rfl d_Model_access_140 ?_
    refine tk_aload_n X d_Model_access_141 rfl rfl ?_
    refine tk_get X (k := (12, 0, 0)) (dm := ks_dm P) (ks_d0 (by decide)) rfl hc_Model hi_Model 16 (by decide) m_Model_41 (v := .ref (tk_ad (ks_G P) (23, 0, 0))) rfl d_Model_access_142 ?_
    refine tk_iload X d_Model_access_145 rfl ?_
    refine tk_iload_n X d_Model_access_147 rfl rfl ?_
    refine kr_iast X hP (f := 23) (i' := 1) (by decide) (by decide) rfl (by decide) rfl (r_pj_lt hP hc hj) (ks_vk_pj hP hj) rfl d_Model_access_148 ?_
    refine tk_aload_n X d_Model_access_149 rfl rfl ?_
    refine tk_get X (k := (12, 0, 0)) (dm := ks_dm P) (ks_d0 (by decide)) rfl hc_Model hi_Model 17 (by decide) m_Model_44 (v := .ref (tk_ad (ks_G P) (24, 0, 0))) rfl d_Model_access_150 ?_
    refine tk_iload X d_Model_access_153 rfl ?_
    refine tk_iconst (v := 0) X d_Model_access_155 (by decide) ?_
    refine kr_iast X hP (f := 24) (i' := 2) (by decide) (by decide) rfl (by decide) rfl (r_pj_lt hP hc hj) (ks_vk_pj hP hj) rfl d_Model_access_156 ?_
    refine tk_aload_n X d_Model_access_157 rfl rfl ?_
    refine tk_get X (k := (12, 0, 0)) (dm := ks_dm P) (ks_d0 (by decide)) rfl hc_Model hi_Model 18 (by decide) m_Model_47 (v := .ref (tk_ad (ks_G P) (25, 0, 0))) rfl d_Model_access_158 ?_
    refine tk_iload X d_Model_access_161 rfl ?_
    refine tk_aload_n X d_Model_access_163 rfl rfl ?_
    refine tk_get X (k := (12, 0, 0)) (dm := ks_dm P) (ks_d0 (by decide)) rfl hc_Model hi_Model 6 (by decide) m_Model_7 (v := .ref (tk_ad (ks_G P) (13, 0, 0))) rfl d_Model_access_164 ?_
    refine tk_iconst (v := 2) X d_Model_access_167 (by decide) ?_
    refine tk_iload_n X d_Model_access_168 rfl rfl ?_
    refine tk_imul X d_Model_access_169 ?_
    refine kr_iald X (f := 13) (i' := (2 * y)) (k' := (2, 0, 0)) (by decide) (by decide) rfl (by decide) (by rw [show (2 : Int32) = nI 2 from rfl, pk_mul]) (by omega) rfl rfl d_Model_access_170 ?_
    refine kr_iast X hP (f := 25) (i' := 3) (by decide) (by decide) rfl (by decide) rfl (r_pj_lt hP hc hj) (ks_vk_pj hP hj) rfl d_Model_access_171 ?_
    refine tk_aload_n X d_Model_access_172 rfl rfl ?_
    refine tk_get X (k := (12, 0, 0)) (dm := ks_dm P) (ks_d0 (by decide)) rfl hc_Model hi_Model 19 (by decide) m_Model_50 (v := .ref (tk_ad (ks_G P) (26, 0, 0))) rfl d_Model_access_173 ?_
    refine tk_iload X d_Model_access_176 rfl ?_
    refine tk_aload_n X d_Model_access_178 rfl rfl ?_
    refine tk_get X (k := (12, 0, 0)) (dm := ks_dm P) (ks_d0 (by decide)) rfl hc_Model hi_Model 6 (by decide) m_Model_7 (v := .ref (tk_ad (ks_G P) (13, 0, 0))) rfl d_Model_access_179 ?_
    refine tk_iconst (v := 2) X d_Model_access_182 (by decide) ?_
    refine tk_iload_n X d_Model_access_183 rfl rfl ?_
    refine tk_imul X d_Model_access_184 ?_
    refine tk_iconst (v := 1) X d_Model_access_185 (by decide) ?_
    refine tk_iadd X d_Model_access_186 ?_
    refine kr_iald X (f := 13) (i' := (2 * y + 1)) (k' := (2, 0, 0)) (by decide) (by decide) rfl (by decide) (by rw [show (2 : Int32) = nI 2 from rfl, pk_mul, nI_1]) (by omega) rfl rfl d_Model_access_187 ?_
    refine kr_iast X hP (f := 26) (i' := 4) (by decide) (by decide) rfl (by decide) rfl (r_pj_lt hP hc hj) (ks_vk_pj hP hj) rfl d_Model_access_188 ?_
    have e1 : k_kp b c j = _ := if_pos h1
    have e3 : k_rf b c j y false = _ := (if_neg (by decide)).trans (r_fill2 hy hm e1).symm
    rw [e3] at kend
    exact tl_m189 X hP hc hj hy _ _ a _ o ⟨y, hy, r_fl1 _ c j y⟩ kend _
end LP

section LP
variable {p : Program} {l : Launch} {e : Env} {R : Room} {s : State} {m : MethodId} {args : Array Value} {below : List Frame} {meth : Method} {c0 : Code} {P : ks_P} {cells slots : Nat} {Q : State → Prop}
set_option maxRecDepth 100000 in
set_option maxHeartbeats 4000000 in
theorem lp_Model_accesstrue (X : tk_X p m c0 s args (ks_G P) R_Model b_Model_access 7 WS) (hP : ks_ok P) {c j y : Nat} (hc : c < ks_n P) (hj : j < ks_T P) (hy : y < 32) (w : Bool) (a : ks_M) (o : ks_O) {b2 : ks_M} (kend : tk_go p l e (ks_rm 3) s m args below meth c0 (ks_G P) (ks_dm P) 7 0 0 Q (ks_sl P a b2 o) 111 [some (.ref (tk_ad (ks_G P) (12, 0, 0))), some (.int (nI c)), some (.int (nI y)), some (.int (q_b w)), some (.int (nI (r_pj (ks_W P) c j))), some (.int (q_b true)), some (.int (nI (ks_n P)))] []) : ∀ (k i : Nat) (b : ks_M), i + k = ks_n P → r_V (ks_n P) (ks_T P) b → k_send (ks_S P) (ks_W P) (nI c) y w k i b = b2 → tk_go p l e (ks_rm 3) s m args below meth c0 (ks_G P) (ks_dm P) 7 0 0 Q (ks_sl P a b o) 82 [some (.ref (tk_ad (ks_G P) (12, 0, 0))), some (.int (nI c)), some (.int (nI y)), some (.int (q_b w)), some (.int (nI (r_pj (ks_W P) c j))), some (.int (q_b true)), some (.int (nI i))] [] := by
  have hn64 := ks_n64 hP
  have hT64 := ks_T64 hP
  intro k
  induction k with
  | zero =>
    intro i b hi hV hk
    have hiT : i = ks_n P := by omega
    subst hiT
    have hk2 : b = b2 := hk
    subst hk2
    refine tk_iload X d_Model_access_82 rfl ?_
    refine tk_aload_n X d_Model_access_84 rfl rfl ?_
    refine tk_get X (k := (12, 0, 0)) (dm := ks_dm P) (ks_d0 (by decide)) rfl hc_Model hi_Model 0 (by decide) m_Model_56 (v := .int _) rfl d_Model_access_85 ?_
    refine tk_icmp_ge (tgt := 111) X d_Model_access_88 (by decide) (fun _ => ?_) (fun h => absurd (nI_le (Nat.le_refl _) (by omega)) h)
    exact kend
  | succ k ih =>
    intro i b hi hV hk
    have hi2 : i < ks_n P := by omega
    refine tk_iload X d_Model_access_82 rfl ?_
    refine tk_aload_n X d_Model_access_84 rfl rfl ?_
    refine tk_get X (k := (12, 0, 0)) (dm := ks_dm P) (ks_d0 (by decide)) rfl hc_Model hi_Model 0 (by decide) m_Model_56 (v := .int _) rfl d_Model_access_85 ?_
    refine tk_icmp_ge (tgt := 111) X d_Model_access_88 (by decide) (fun h => absurd h (nI_ge hi2 (by omega))) (fun _ => ?_)
    refine tk_iload X d_Model_access_91 rfl ?_
    refine tk_iload_n X d_Model_access_93 rfl rfl ?_
    refine tk_icmp_eq (tgt := 105) X d_Model_access_94 (by decide) (fun h1 => ?_) (fun h1 => ?_)
    · skip
      refine tk_iinc (v := nI (i + 1)) X d_Model_access_105 rfl (q_inc i) (by decide) rfl ?_
      refine tk_goto (tgt := 82) X d_Model_access_108 (by decide) ?_
      have e1 : k_ask1 (ks_S P) (ks_W P) (nI c) y w i b = b := if_pos h1
      exact ih (i + 1) _ (by omega) hV (by rw [← e1]; exact hk)
    · skip
      refine tk_aload_n X d_Model_access_97 rfl rfl ?_
      refine tk_iload X d_Model_access_98 rfl ?_
      refine tk_iload_n X d_Model_access_100 rfl rfl ?_
      refine tk_iload_n X d_Model_access_101 rfl rfl ?_
      refine tk_callV X (kb := (12, 0, 0)) (ks_d0 (by decide)) rfl hc_Model (c_Model_meet l P hP i y hi2 hy w a b o (hV i hi2)) (ks_site (n := 3) mc_Model_meet mi_Model (by decide +kernel) (by decide) (by decide)) m_Model_91 ms_Model_meet mv_Model_meet rfl (Nat.le_of_ble_eq_true rfl) ⟨Nat.le_of_ble_eq_true rfl, Nat.le_of_ble_eq_true rfl⟩ rfl d_Model_access_102 ?_
      refine tk_iinc (v := nI (i + 1)) X d_Model_access_105 rfl (q_inc i) (by decide) rfl ?_
      refine tk_goto (tgt := 82) X d_Model_access_108 (by decide) ?_
      have e1 : k_ask1 (ks_S P) (ks_W P) (nI c) y w i b = k_met (ks_S P) (ks_W P) b i y w := if_neg h1
      exact ih (i + 1) _ (by omega) (r_V_met hV (k_first_le hP y) w) (by rw [← e1]; exact hk)
end LP

section LP
variable {p : Program} {l : Launch} {e : Env} {R : Room} {s : State} {m : MethodId} {args : Array Value} {below : List Frame} {meth : Method} {c0 : Code} {P : ks_P} {cells slots : Nat} {Q : State → Prop}
set_option maxRecDepth 100000 in
set_option maxHeartbeats 4000000 in
theorem tl_m49true (X : tk_X p m c0 s args (ks_G P) R_Model b_Model_access 7 WS) (hP : ks_ok P) {c j y : Nat} (hc : c < ks_n P) (hj : j < ks_T P) (hy : y < 32) (w : Bool) (a b : ks_M) (o : ks_O) (hV : r_V (ks_n P) (ks_T P) b) (hl : q_lin (b (7, c, j) 1)) (kend : ∀ t6, tk_go p l e (ks_rm 3) s m args below meth c0 (ks_G P) (ks_dm P) 7 0 0 Q (ks_sl P a (k_acc2 (ks_n P) (ks_S P) (ks_W P) b c y w true j) o) 298 [some (.ref (tk_ad (ks_G P) (12, 0, 0))), some (.int (nI c)), some (.int (nI y)), some (.int (q_b w)), some (.int (nI (r_pj (ks_W P) c j))), some (.int (q_b true)), t6] [.int (nI (r_pj (ks_W P) c j))]) (t6 : Option Value) : tk_go p l e (ks_rm 3) s m args below meth c0 (ks_G P) (ks_dm P) 7 0 0 Q (ks_sl P a b o) 49 [some (.ref (tk_ad (ks_G P) (12, 0, 0))), some (.int (nI c)), some (.int (nI y)), some (.int (q_b w)), some (.int (nI (r_pj (ks_W P) c j))), some (.int (q_b true)), t6] [] := by
  have hn64 := ks_n64 hP
  have hT64 := ks_T64 hP
  have hc3 : c < 3 := by have := hP.2.1; omega
  cases w with
  | false =>
    refine tk_iload X d_Model_access_49 rfl ?_
    refine tk_if_eq (tgt := 69) X d_Model_access_51 (by decide) (fun h => absurd h (by decide)) (fun _ => ?_)
    refine tk_iload_n X d_Model_access_54 rfl rfl ?_
    refine tk_if_eq (tgt := 111) X d_Model_access_55 (by decide) (fun _ => ?_) (fun h => absurd (by decide) h)
    have e1 : k_rq (ks_n P) (ks_S P) (ks_W P) b c y false true j = b := ((if_pos rfl).trans (if_neg (by decide)))
    unfold k_acc2 at kend
    rw [e1] at kend
    exact tl_m111true X hP hc hj hy _ a b o hl kend _
  | true =>
    refine tk_iload X d_Model_access_49 rfl ?_
    refine tk_if_eq (tgt := 69) X d_Model_access_51 (by decide) (fun h => absurd h (by decide)) (fun _ => ?_)
    refine tk_iload_n X d_Model_access_54 rfl rfl ?_
    refine tk_if_eq (tgt := 111) X d_Model_access_55 (by decide) (fun h => absurd h (by decide)) (fun _ => ?_)
    refine tk_aload_n X d_Model_access_58 rfl rfl ?_
    refine tk_get X (k := (12, 0, 0)) (dm := ks_dm P) (ks_d0 (by decide)) rfl hc_Model hi_Model 15 (by decide) m_Model_38 (v := .ref (tk_ad (ks_G P) (22, 0, 0))) rfl d_Model_access_59 ?_
    refine tk_iload X d_Model_access_62 rfl ?_
    refine kr_iald X (f := 22) (i' := 0) (by decide) (by decide) rfl (by decide) rfl (r_pj_lt hP hc hj) (ks_vk_pj hP hj) rfl d_Model_access_64 ?_
    refine tk_iconst (v := 2) X d_Model_access_65 (by decide) ?_
    refine tk_icmp_eq (tgt := 111) X d_Model_access_66 (by decide) (fun h1 => ?_) (fun h1 => ?_)
    · skip
      have e1 : k_rq (ks_n P) (ks_S P) (ks_W P) b c y true true j = b := (((if_pos rfl).trans (if_pos rfl)).trans (if_pos h1))
      unfold k_acc2 at kend
      rw [e1] at kend
      exact tl_m111true X hP hc hj hy _ a b o hl kend _
    · skip
      refine tk_aload_n X d_Model_access_69 rfl rfl ?_
      refine tk_dup X rfl d_Model_access_70 ?_
      refine tk_get X (k := (12, 0, 0)) (dm := ks_dm P) (ks_d0 (by decide)) rfl hc_Model hi_Model 5 (by decide) m_Model_88 (v := .int _) rfl d_Model_access_71 ?_
      refine tk_iconst (v := 1) X d_Model_access_74 (by decide) ?_
      refine tk_iadd X d_Model_access_75 ?_
      refine kr_put X hc_Model hi_Model t_Model t_Model_ok n_Model 5 (by decide) (by decide) m_Model_88 rfl rfl rfl d_Model_access_76 ?_
      refine tk_iconst (v := 0) X d_Model_access_79 (by decide) ?_
      refine tk_istore X d_Model_access_80 (by decide) rfl ?_
      have e1 : k_rq (ks_n P) (ks_S P) (ks_W P) b c y true true j = k_ask (ks_n P) (ks_S P) (ks_W P) b c y true := (((if_pos rfl).trans (if_pos rfl)).trans (if_neg h1))
      unfold k_acc2 at kend
      rw [e1] at kend
      refine lp_Model_accesstrue X hP hc hj hy true a o (b2 := k_ask (ks_n P) (ks_S P) (ks_W P) b c y true) ?_ (ks_n P) 0 (ks_up b (0, 0, 0) 2 (b (0, 0, 0) 2 + 1)) (by omega) (fun i hi => r_Vc_eq (hV i hi) (fun _ _ => ks_up_nk _ _ (by simp))) rfl
      exact tl_m111true X hP hc hj hy _ a _ o (by unfold k_ask; rw [k_send_own _ _ _ (by omega) _ _ _ (by omega), ks_up_nk _ _ (by simp)]; exact hl) kend _
end LP

section LP
variable {p : Program} {l : Launch} {e : Env} {R : Room} {s : State} {m : MethodId} {args : Array Value} {below : List Frame} {meth : Method} {c0 : Code} {P : ks_P} {cells slots : Nat} {Q : State → Prop}
set_option maxRecDepth 100000 in
set_option maxHeartbeats 4000000 in
theorem lp_Model_accessfalse (X : tk_X p m c0 s args (ks_G P) R_Model b_Model_access 7 WS) (hP : ks_ok P) {c j y : Nat} (hc : c < ks_n P) (hj : j < ks_T P) (hy : y < 32) (w : Bool) (a : ks_M) (o : ks_O) {b2 : ks_M} (kend : tk_go p l e (ks_rm 3) s m args below meth c0 (ks_G P) (ks_dm P) 7 0 0 Q (ks_sl P a b2 o) 111 [some (.ref (tk_ad (ks_G P) (12, 0, 0))), some (.int (nI c)), some (.int (nI y)), some (.int (q_b w)), some (.int (nI (r_pj (ks_W P) c j))), some (.int (q_b false)), some (.int (nI (ks_n P)))] []) : ∀ (k i : Nat) (b : ks_M), i + k = ks_n P → r_V (ks_n P) (ks_T P) b → k_send (ks_S P) (ks_W P) (nI c) y w k i b = b2 → tk_go p l e (ks_rm 3) s m args below meth c0 (ks_G P) (ks_dm P) 7 0 0 Q (ks_sl P a b o) 82 [some (.ref (tk_ad (ks_G P) (12, 0, 0))), some (.int (nI c)), some (.int (nI y)), some (.int (q_b w)), some (.int (nI (r_pj (ks_W P) c j))), some (.int (q_b false)), some (.int (nI i))] [] := by
  have hn64 := ks_n64 hP
  have hT64 := ks_T64 hP
  intro k
  induction k with
  | zero =>
    intro i b hi hV hk
    have hiT : i = ks_n P := by omega
    subst hiT
    have hk2 : b = b2 := hk
    subst hk2
    refine tk_iload X d_Model_access_82 rfl ?_
    refine tk_aload_n X d_Model_access_84 rfl rfl ?_
    refine tk_get X (k := (12, 0, 0)) (dm := ks_dm P) (ks_d0 (by decide)) rfl hc_Model hi_Model 0 (by decide) m_Model_56 (v := .int _) rfl d_Model_access_85 ?_
    refine tk_icmp_ge (tgt := 111) X d_Model_access_88 (by decide) (fun _ => ?_) (fun h => absurd (nI_le (Nat.le_refl _) (by omega)) h)
    exact kend
  | succ k ih =>
    intro i b hi hV hk
    have hi2 : i < ks_n P := by omega
    refine tk_iload X d_Model_access_82 rfl ?_
    refine tk_aload_n X d_Model_access_84 rfl rfl ?_
    refine tk_get X (k := (12, 0, 0)) (dm := ks_dm P) (ks_d0 (by decide)) rfl hc_Model hi_Model 0 (by decide) m_Model_56 (v := .int _) rfl d_Model_access_85 ?_
    refine tk_icmp_ge (tgt := 111) X d_Model_access_88 (by decide) (fun h => absurd h (nI_ge hi2 (by omega))) (fun _ => ?_)
    refine tk_iload X d_Model_access_91 rfl ?_
    refine tk_iload_n X d_Model_access_93 rfl rfl ?_
    refine tk_icmp_eq (tgt := 105) X d_Model_access_94 (by decide) (fun h1 => ?_) (fun h1 => ?_)
    · skip
      refine tk_iinc (v := nI (i + 1)) X d_Model_access_105 rfl (q_inc i) (by decide) rfl ?_
      refine tk_goto (tgt := 82) X d_Model_access_108 (by decide) ?_
      have e1 : k_ask1 (ks_S P) (ks_W P) (nI c) y w i b = b := if_pos h1
      exact ih (i + 1) _ (by omega) hV (by rw [← e1]; exact hk)
    · skip
      refine tk_aload_n X d_Model_access_97 rfl rfl ?_
      refine tk_iload X d_Model_access_98 rfl ?_
      refine tk_iload_n X d_Model_access_100 rfl rfl ?_
      refine tk_iload_n X d_Model_access_101 rfl rfl ?_
      refine tk_callV X (kb := (12, 0, 0)) (ks_d0 (by decide)) rfl hc_Model (c_Model_meet l P hP i y hi2 hy w a b o (hV i hi2)) (ks_site (n := 3) mc_Model_meet mi_Model (by decide +kernel) (by decide) (by decide)) m_Model_91 ms_Model_meet mv_Model_meet rfl (Nat.le_of_ble_eq_true rfl) ⟨Nat.le_of_ble_eq_true rfl, Nat.le_of_ble_eq_true rfl⟩ rfl d_Model_access_102 ?_
      refine tk_iinc (v := nI (i + 1)) X d_Model_access_105 rfl (q_inc i) (by decide) rfl ?_
      refine tk_goto (tgt := 82) X d_Model_access_108 (by decide) ?_
      have e1 : k_ask1 (ks_S P) (ks_W P) (nI c) y w i b = k_met (ks_S P) (ks_W P) b i y w := if_neg h1
      exact ih (i + 1) _ (by omega) (r_V_met hV (k_first_le hP y) w) (by rw [← e1]; exact hk)
end LP

section LP
variable {p : Program} {l : Launch} {e : Env} {R : Room} {s : State} {m : MethodId} {args : Array Value} {below : List Frame} {meth : Method} {c0 : Code} {P : ks_P} {cells slots : Nat} {Q : State → Prop}
set_option maxRecDepth 100000 in
set_option maxHeartbeats 4000000 in
theorem tl_m49false (X : tk_X p m c0 s args (ks_G P) R_Model b_Model_access 7 WS) (hP : ks_ok P) {c j y : Nat} (hc : c < ks_n P) (hj : j < ks_T P) (hy : y < 32) (w : Bool) (a b : ks_M) (o : ks_O) (hV : r_V (ks_n P) (ks_T P) b) (hl : q_lin (b (7, c, j) 1)) (hm : b (7, c, j) 2 = 0) (kend : ∀ t6, tk_go p l e (ks_rm 3) s m args below meth c0 (ks_G P) (ks_dm P) 7 0 0 Q (ks_sl P a (k_acc2 (ks_n P) (ks_S P) (ks_W P) b c y w false j) o) 298 [some (.ref (tk_ad (ks_G P) (12, 0, 0))), some (.int (nI c)), some (.int (nI y)), some (.int (q_b w)), some (.int (nI (r_pj (ks_W P) c j))), some (.int (q_b false)), t6] [.int (nI (r_pj (ks_W P) c j))]) (t6 : Option Value) : tk_go p l e (ks_rm 3) s m args below meth c0 (ks_G P) (ks_dm P) 7 0 0 Q (ks_sl P a b o) 49 [some (.ref (tk_ad (ks_G P) (12, 0, 0))), some (.int (nI c)), some (.int (nI y)), some (.int (q_b w)), some (.int (nI (r_pj (ks_W P) c j))), some (.int (q_b false)), t6] [] := by
  have hn64 := ks_n64 hP
  have hT64 := ks_T64 hP
  have hc3 : c < 3 := by have := hP.2.1; omega
  cases w with
  | false =>
    refine tk_iload X d_Model_access_49 rfl ?_
    refine tk_if_eq (tgt := 69) X d_Model_access_51 (by decide) (fun _ => ?_) (fun h => absurd (by decide) h)
    refine tk_aload_n X d_Model_access_69 rfl rfl ?_
    refine tk_dup X rfl d_Model_access_70 ?_
    refine tk_get X (k := (12, 0, 0)) (dm := ks_dm P) (ks_d0 (by decide)) rfl hc_Model hi_Model 5 (by decide) m_Model_88 (v := .int _) rfl d_Model_access_71 ?_
    refine tk_iconst (v := 1) X d_Model_access_74 (by decide) ?_
    refine tk_iadd X d_Model_access_75 ?_
    refine kr_put X hc_Model hi_Model t_Model t_Model_ok n_Model 5 (by decide) (by decide) m_Model_88 rfl rfl rfl d_Model_access_76 ?_
    refine tk_iconst (v := 0) X d_Model_access_79 (by decide) ?_
    refine tk_istore X d_Model_access_80 (by decide) rfl ?_
    have e1 : k_rq (ks_n P) (ks_S P) (ks_W P) b c y false false j = k_ask (ks_n P) (ks_S P) (ks_W P) b c y false := (if_neg (by decide))
    unfold k_acc2 at kend
    rw [e1] at kend
    refine lp_Model_accessfalse X hP hc hj hy false a o (b2 := k_ask (ks_n P) (ks_S P) (ks_W P) b c y false) ?_ (ks_n P) 0 (ks_up b (0, 0, 0) 2 (b (0, 0, 0) 2 + 1)) (by omega) (fun i hi => r_Vc_eq (hV i hi) (fun _ _ => ks_up_nk _ _ (by simp))) rfl
    exact tl_m111false X hP hc hj hy _ a _ o (by unfold k_ask; rw [k_send_own _ _ _ (by omega) _ _ _ (by omega), ks_up_nk _ _ (by simp)]; exact hl) (by unfold k_ask; rw [k_send_own _ _ _ (by omega) _ _ _ (by omega), ks_up_nk _ _ (by simp)]; exact hm) kend _
  | true =>
    refine tk_iload X d_Model_access_49 rfl ?_
    refine tk_if_eq (tgt := 69) X d_Model_access_51 (by decide) (fun _ => ?_) (fun h => absurd (by decide) h)
    refine tk_aload_n X d_Model_access_69 rfl rfl ?_
    refine tk_dup X rfl d_Model_access_70 ?_
    refine tk_get X (k := (12, 0, 0)) (dm := ks_dm P) (ks_d0 (by decide)) rfl hc_Model hi_Model 5 (by decide) m_Model_88 (v := .int _) rfl d_Model_access_71 ?_
    refine tk_iconst (v := 1) X d_Model_access_74 (by decide) ?_
    refine tk_iadd X d_Model_access_75 ?_
    refine kr_put X hc_Model hi_Model t_Model t_Model_ok n_Model 5 (by decide) (by decide) m_Model_88 rfl rfl rfl d_Model_access_76 ?_
    refine tk_iconst (v := 0) X d_Model_access_79 (by decide) ?_
    refine tk_istore X d_Model_access_80 (by decide) rfl ?_
    have e1 : k_rq (ks_n P) (ks_S P) (ks_W P) b c y true false j = k_ask (ks_n P) (ks_S P) (ks_W P) b c y true := (if_neg (by decide))
    unfold k_acc2 at kend
    rw [e1] at kend
    refine lp_Model_accessfalse X hP hc hj hy true a o (b2 := k_ask (ks_n P) (ks_S P) (ks_W P) b c y true) ?_ (ks_n P) 0 (ks_up b (0, 0, 0) 2 (b (0, 0, 0) 2 + 1)) (by omega) (fun i hi => r_Vc_eq (hV i hi) (fun _ _ => ks_up_nk _ _ (by simp))) rfl
    exact tl_m111false X hP hc hj hy _ a _ o (by unfold k_ask; rw [k_send_own _ _ _ (by omega) _ _ _ (by omega), ks_up_nk _ _ (by simp)]; exact hl) (by unfold k_ask; rw [k_send_own _ _ _ (by omega) _ _ _ (by omega), ks_up_nk _ _ (by simp)]; exact hm) kend _
end LP

set_option maxRecDepth 100000 in
set_option maxHeartbeats 4000000 in
theorem c_Model_access (l : Launch) (P : ks_P) (hP : ks_ok P) (c y : Nat) (hc : c < ks_n P) (hy : y < 32) (w : Bool) (a b : ks_M) (o : ks_O) (hV : r_V (ks_n P) (ks_T P) b) : kc l P y_Model_access b_Model_access 7 (some .int) 3 [.ref (tk_ad (ks_G P) (12, 0, 0)), .int (nI c), .int (nI y), .int (q_b w)] a b o (some (.int (r_int (ks_W P) c (k_acc (ks_n P) (ks_S P) (ks_W P) b c y w).1))) a (k_acc (ks_n P) (ks_S P) (ks_W P) b c y w).2 o := by
  have hn64 := ks_n64 hP
  have hT64 := ks_T64 hP
  refine tk_of hP.2.2.2.2.2 (by decide) rfl (Nat.le_of_ble_eq_true rfl) ?_
  intro p e s m below meth c0 X hlk hr hnm
  refine tk_aload_n X d_Model_access_0 rfl rfl ?_
  refine tk_iload_n X d_Model_access_1 rfl rfl ?_
  refine tk_iload_n X d_Model_access_2 rfl rfl ?_
  refine tk_callV X (kb := (12, 0, 0)) (ks_d0 (by decide)) rfl hc_Model (c_Model_find l P hP c y hc hy a b o (hV c hc).1) (ks_site (n := 2) mc_Model_find mi_Model (by decide +kernel) (by decide) (by decide)) m_Model_73 ms_Model_find mv_Model_find rfl (Nat.le_of_ble_eq_true rfl) ⟨Nat.le_of_ble_eq_true rfl, Nat.le_of_ble_eq_true rfl⟩ rfl d_Model_access_3 ?_
  cases hf : k_find b c y (ks_W P) (k_first (ks_S P) (ks_W P) y) with
  | none =>
    refine tk_istore X d_Model_access_6 (by decide) rfl ?_
    refine tk_iload X d_Model_access_8 rfl ?_
    refine tk_iconst (v := -1) X d_Model_access_10 (by decide) ?_
    refine tk_icmp_eq (tgt := 18) X d_Model_access_11 (by decide) (fun _ => ?_) (fun h => absurd rfl h)
    refine tk_iconst (v := 0) X d_Model_access_18 (by decide) ?_
    refine tk_istore X d_Model_access_19 (by decide) rfl ?_
    refine tk_iload X d_Model_access_21 rfl ?_
    refine tk_if_ne (tgt := 34) X d_Model_access_23 (by decide) (fun h => absurd (by decide) h) (fun _ => ?_)
    refine tk_aload_n X d_Model_access_26 rfl rfl ?_
    refine tk_iload_n X d_Model_access_27 rfl rfl ?_
    refine tk_iload_n X d_Model_access_28 rfl rfl ?_
    refine tk_callV X (kb := (12, 0, 0)) (ks_d0 (by decide)) rfl hc_Model (c_Model_room l P hP c y hc hy a b o) (ks_site (n := 2) mc_Model_room mi_Model (by decide +kernel) (by decide) (by decide)) m_Model_85 ms_Model_room mv_Model_room rfl (Nat.le_of_ble_eq_true rfl) ⟨Nat.le_of_ble_eq_true rfl, Nat.le_of_ble_eq_true rfl⟩ rfl d_Model_access_29 ?_
    cases hg : k_room b c (ks_W P) (k_first (ks_S P) (ks_W P) y) none with
    | none =>
      refine tk_istore X d_Model_access_32 (by decide) rfl ?_
      refine tk_iload X d_Model_access_34 rfl ?_
      refine tk_iconst (v := -1) X d_Model_access_36 (by decide) ?_
      refine tk_icmp_ne (tgt := 49) X d_Model_access_37 (by decide) (fun h => absurd rfl h) (fun _ => ?_)
      refine tk_aload_n X d_Model_access_40 rfl rfl ?_
      refine tk_iload_n X d_Model_access_41 rfl rfl ?_
      refine tk_iconst (v := 2) X d_Model_access_42 (by decide) ?_
      refine tk_iconst (v := 2) X d_Model_access_43 (by decide) ?_
      refine tk_callV X (kb := (12, 0, 0)) (ks_d0 (by decide)) rfl hc_Model (c_Model_abortK l P hP c 2 hc (by decide) 0 2 (by decide) a b o (hV c hc).2.1) (ks_site (n := 3) mc_Model_abort mi_Model (by decide +kernel) (by decide) (by decide)) m_Model_77 ms_Model_abort mv_Model_abort rfl (Nat.le_of_ble_eq_true rfl) ⟨Nat.le_of_ble_eq_true rfl, Nat.le_of_ble_eq_true rfl⟩ rfl d_Model_access_44 ?_
      refine tk_iconst (v := -1) X d_Model_access_47 (by decide) ?_
      have e1 : k_acc (ks_n P) (ks_S P) (ks_W P) b c y w = (none, k_abort (ks_T P) b c 2 0) := by unfold k_acc; rw [hf, hg]
      exact tk_iret X hlk hr d_Model_access_48 (by rw [e1]; rfl) (fun _ h => h) (Or.inr rfl) (kw_st rfl (by rw [e1]) rfl)
    | some j =>
      have hj : j < ks_T P := k_room_T hP hg
      have hl : q_lin (b (7, c, j) 1) := ((hV c hc).2.2 j hj).1
      have hm : b (7, c, j) 2 = 0 := k_room_m (hV c hc) _ _ none (k_first_le hP y) (fun i h => by cases h) hg
      refine tk_istore X d_Model_access_32 (by decide) rfl ?_
      refine tk_iload X d_Model_access_34 rfl ?_
      refine tk_iconst (v := -1) X d_Model_access_36 (by decide) ?_
      refine tk_icmp_ne (tgt := 49) X d_Model_access_37 (by decide) (fun _ => ?_) (fun h => absurd h (nI_nm1 (Nat.lt_trans (r_pj_lt hP hc hj) (by decide))))
      have e1 : k_acc (ks_n P) (ks_S P) (ks_W P) b c y w = (some j, k_acc2 (ks_n P) (ks_S P) (ks_W P) b c y w false j) := by unfold k_acc; rw [hf, hg]
      refine tl_m49false X hP hc hj hy w a b o hV hl hm (fun t6 => ?_) _
      exact tk_iret X hlk hr d_Model_access_298 (by rw [e1]; rfl) (fun _ h => h) (Or.inr rfl) (kw_st rfl (by rw [e1]) rfl)
  | some j =>
    have hj : j < ks_T P := k_find_T hP hf
    have hl : q_lin (b (7, c, j) 1) := ⟨y, hy, (k_find_mat b c y _ _ hf).2⟩
    refine tk_istore X d_Model_access_6 (by decide) rfl ?_
    refine tk_iload X d_Model_access_8 rfl ?_
    refine tk_iconst (v := -1) X d_Model_access_10 (by decide) ?_
    refine tk_icmp_eq (tgt := 18) X d_Model_access_11 (by decide) (fun h => absurd h (nI_nm1 (Nat.lt_trans (r_pj_lt hP hc hj) (by decide)))) (fun _ => ?_)
    refine tk_iconst (v := 1) X d_Model_access_14 (by decide) ?_
    refine tk_goto (tgt := 19) X d_Model_access_15 (by decide) ?_
    refine tk_istore X d_Model_access_19 (by decide) rfl ?_
    refine tk_iload X d_Model_access_21 rfl ?_
    refine tk_if_ne (tgt := 34) X d_Model_access_23 (by decide) (fun _ => ?_) (fun h => absurd h (by decide))
    refine tk_iload X d_Model_access_34 rfl ?_
    refine tk_iconst (v := -1) X d_Model_access_36 (by decide) ?_
    refine tk_icmp_ne (tgt := 49) X d_Model_access_37 (by decide) (fun _ => ?_) (fun h => absurd h (nI_nm1 (Nat.lt_trans (r_pj_lt hP hc hj) (by decide))))
    have e1 : k_acc (ks_n P) (ks_S P) (ks_W P) b c y w = (some j, k_acc2 (ks_n P) (ks_S P) (ks_W P) b c y w true j) := by unfold k_acc; rw [hf]
    refine tl_m49true X hP hc hj hy w a b o hV hl (fun t6 => ?_) _
    exact tk_iret X hlk hr d_Model_access_298 (by rw [e1]; rfl) (fun _ h => h) (Or.inr rfl) (kw_st rfl (by rw [e1]) rfl)
end
section
def k_mv (n S W : Nat) (b : ks_M) (c r : Nat) (x : Int32) (w : Bool) : Int32 × ks_M := match (k_acc n S W b c (q_ln x) w).1 with
  | none => (2, (k_acc n S W b c (q_ln x) w).2)
  | some j => (4, if w = true then k_wput (k_acc n S W b c (q_ln x) w).2 c j x ((k_acc n S W b c (q_ln x) w).2 (9, c, 0) r) else ks_up (k_acc n S W b c (q_ln x) w).2 (9, c, 0) r (k_wget (k_acc n S W b c (q_ln x) w).2 c j x))
theorem k_load_mv (n S W : Nat) (a : ks_M) (c : Nat) (w : Int32) : k_load n S W a c w = k_mv n S W a c (q_ix (q_A w)) (k_addr a c w) false := by
  unfold k_load k_mv
  cases (k_acc n S W a c (q_ln (k_addr a c w)) false).1 <;> rfl
theorem k_save_mv (n S W : Nat) (a : ks_M) (c : Nat) (w : Int32) : k_save n S W a c w = k_mv n S W a c (q_ix (q_A w)) (k_addr a c w) true := by
  unfold k_save k_mv
  cases (k_acc n S W a c (q_ln (k_addr a c w)) true).1 <;> rfl
theorem q_dv (x : Int32) : (x &&& 63) / 2 = nI (q_ln x) := by
  have h := q_l63 x
  have e : (x &&& 63) / 2 = nI (q_ix (x &&& 63)) / nI 2 := by rw [← q_m63 x]; rfl
  rw [e, pk_div (by omega) (by decide) (by decide)]
  rfl
theorem q_ra (c : Nat) (w : Int32) : 8 * nI c + q_A w = nI (8 * c + q_ix (q_A w)) := by
  have h := q_mul 8 c (q_ix (q_A w))
  rw [← q_mA w] at h
  exact h
theorem q_rb (c : Nat) (w : Int32) : 8 * nI c + q_B w = nI (8 * c + q_ix (q_B w)) := by
  have h := q_mul 8 c (q_ix (q_B w))
  rw [← q_mB w] at h
  exact h
theorem q_rc (c : Nat) (w : Int32) : 8 * nI c + q_C w = nI (8 * c + q_ix (q_C w)) := by
  have h := q_mul 8 c (q_ix (q_C w))
  rw [← q_mC w] at h
  exact h
theorem q_pg {x : Int32} (hp : q_pc x) (c : Nat) : 16 * nI c + x = nI (16 * c + q_ix x) := by
  have h := q_mul 16 c (q_ix x)
  rw [← hp.1] at h
  exact h
theorem q_back {x : Int32} (hp : q_pc x) : (((x + 1) &&& 15) + 15) &&& 15 = x := by
  obtain ⟨h1, h2⟩ := hp
  generalize q_ix x = p at h1 h2
  subst h1
  rw [nI_1, pk_andN (by omega) 4 (by decide), show (15 : Int32) = nI 15 from rfl, nI_add, show nI 15 = (15 : Int32) from rfl, pk_andN (by omega) 4 (by decide)]
  congr 1
  omega
theorem k_up_back (b : ks_M) (k : tk_K) (i : Nat) (v : Int32) : ks_up (ks_up b k i v) k i (b k i) = b := by
  funext k' i'
  by_cases h : k' = k ∧ i' = i
  · obtain ⟨rfl, rfl⟩ := h
    rw [ks_up_eq]
  · rw [ks_up_ne _ _ h, ks_up_ne _ _ h]
def r_nt (b : ks_M) (c : Nat) : Nat → ks_M
  | 0 => b
  | r + 1 => ks_up (r_nt b c r) (10, c, 0) r (r_nt b c r (9, c, 0) r)
theorem r_nt_at (b : ks_M) (c : Nat) : ∀ (r : Nat), r_nt b c r = k_cp b (9, c, 0) (10, c, 0) r
  | 0 => by
    funext k i
    simp [r_nt, k_cp]
  | r + 1 => by
    rw [r_nt, r_nt_at b c r]
    funext k i
    by_cases h : k = (10, c, 0) ∧ i = r
    · obtain ⟨rfl, rfl⟩ := h
      rw [ks_up_eq]
      simp [k_cp]
    · rw [ks_up_ne _ _ h]
      unfold k_cp
      by_cases h1 : k = (10, c, 0)
      · subst h1
        have h2 : ¬ i = r := fun q => h ⟨rfl, q⟩
        by_cases h3 : i < r
        · rw [if_pos ⟨rfl, h3⟩, if_pos ⟨rfl, by omega⟩]
        · rw [if_neg (fun q => h3 q.2), if_neg (fun q => by have := q.2; omega)]
      · rw [if_neg (fun q => h1 q.1), if_neg (fun q => h1 q.1)]
theorem r_nt_4 (b : ks_M) (c r i : Nat) : r_nt b c r (4, c, 0) i = b (4, c, 0) i := by
  rw [r_nt_at]
  exact k_cp_ne b _ _ (by simp)
def r_dm (S W : Nat) (b : ks_M) (c : Nat) : Nat → ks_M
  | 0 => b
  | r + 1 => ks_up (r_dm S W b c r) (7, c, ks_J S W r) 2 0
theorem r_dm_ne (S W : Nat) (b : ks_M) (c : Nat) : ∀ (r : Nat) (k' : tk_K) (i' : Nat), (∀ s, s < r → ¬ (k' = (7, c, ks_J S W s) ∧ i' = 2)) → r_dm S W b c r k' i' = b k' i'
  | 0, _, _, _ => rfl
  | r + 1, k', i', h => by
    rw [r_dm, ks_up_ne _ _ (h r (by omega)), r_dm_ne S W b c r k' i' (fun s hs => h s (by omega))]
theorem r_dm_at (S W : Nat) (b : ks_M) (c : Nat) : ∀ (r s : Nat), s < r → r_dm S W b c r (7, c, ks_J S W s) 2 = 0
  | 0, s, h => absurd h (by omega)
  | r + 1, s, h => by
    rw [r_dm]
    by_cases hk : ks_J S W s = ks_J S W r
    · rw [hk, ks_up_eq]
    · rw [ks_up_ne _ _ (fun q => hk (by have := q.1; simp at this; exact this))]
      by_cases hs : s = r
      · subst hs; exact absurd rfl hk
      · exact r_dm_at S W b c r s (by omega)
theorem r_dm_eq {P : ks_P} (hP : ks_ok P) (b : ks_M) (c : Nat) (hj : ∀ j, ks_T P ≤ j → b (7, c, j) 2 = 0) : r_dm (ks_S P) (ks_W P) b c 12 = k_dm b c (ks_T P) := by
  funext k' i'
  by_cases hk : ∃ j, k' = (7, c, j) ∧ i' = 2
  · obtain ⟨j, rfl, rfl⟩ := hk
    by_cases hjT : j < ks_T P
    · obtain ⟨r, hr, rfl⟩ := ks_J_T hP hjT
      rw [r_dm_at _ _ b c 12 r hr, k_dm_at _ _ _ _ hjT]
    · rw [k_dm_ne _ _ _ _ _ (fun j2 h2 q => by simp at q; omega)]
      by_cases hh : ∃ r, r < 12 ∧ ks_J (ks_S P) (ks_W P) r = j
      · obtain ⟨r, hr, rfl⟩ := hh
        rw [r_dm_at _ _ b c 12 r hr, hj _ (Nat.not_lt.mp hjT)]
      · rw [r_dm_ne _ _ b c 12 _ _ (fun s hs q => hh ⟨s, hs, by have := q.1; simp at this; exact this.symm⟩)]
  · rw [k_dm_ne _ _ _ _ _ (fun j _ q => hk ⟨j, q⟩), r_dm_ne _ _ b c 12 _ _ (fun s _ q => hk ⟨_, q⟩)]
theorem v12k2 {P : ks_P} {c r : Nat} (hr : r < 12) : ((7, (12 * c + r) / 12, ks_J (ks_S P) (ks_W P) ((12 * c + r) % 12)) : tk_K) = (7, c, ks_J (ks_S P) (ks_W P) r) := v12k _ _ hr
theorem q_sh (x : Int32) {i : Nat} (hi : i < 16) : (x >>> ((2 * nI i) &&& 31)) &&& 3 = q_who x i := by
  have hk : ((2 * nI i) &&& 31 : Int32) = nI (2 * i) := by
    rw [show (2 : Int32) = nI 2 from rfl, pk_mul, pk_andN (by omega) 5 (by decide), Nat.mod_eq_of_lt (by omega)]
  have e1 : ∀ j, j < 16 → ((nI (2 * j)).toBitVec.smod 32).toNat = 2 * j := by decide +kernel
  have e2 : ∀ j, j < 16 → (((2 * nI j : Int32).toUInt32 &&& Int32.toUInt32 31).toBitVec % 32).toNat = 2 * j := by decide +kernel
  have h1 := pk_shr x (nI (2 * i)) (2 * i) (e1 i hi)
  have h2 := pk_ushr x (2 * nI i) (2 * i) (e2 i hi)
  unfold q_who
  rw [hk, pk_and _ 2 (by decide), pk_and _ 2 (by decide), h2]
  congr 1
  have h3 : (x >>> nI (2 * i)).toInt = (x >>> nI (2 * i)).toBitVec.toInt := rfl
  have h4 : x.toInt = x.toBitVec.toInt := rfl
  rw [h3, h4, BitVec.toInt_eq_toNat_bmod, BitVec.toInt_eq_toNat_bmod] at h1
  have hA : (x >>> nI (2 * i)).toBitVec.toNat < 4294967296 := BitVec.isLt _
  have hB : x.toBitVec.toNat < 4294967296 := BitVec.isLt _
  generalize (x >>> nI (2 * i)).toBitVec.toNat = A at h1 hA ⊢
  generalize x.toBitVec.toNat = B at h1 hB ⊢
  have key : ∀ n : Nat, n < 4294967296 → (n : Int).bmod (2 ^ 32) = n ∨ (n : Int).bmod (2 ^ 32) = n - 4294967296 := by
    intro n hn
    unfold Int.bmod
    simp only [Nat.reducePow]
    split <;> omega
  rw [Int.shiftRight_eq_div_pow] at h1
  have hc : i = 0 ∨ i = 1 ∨ i = 2 ∨ i = 3 ∨ i = 4 ∨ i = 5 ∨ i = 6 ∨ i = 7 ∨ i = 8 ∨ i = 9 ∨ i = 10 ∨ i = 11 ∨ i = 12 ∨ i = 13 ∨ i = 14 ∨ i = 15 := by omega
  clear hi hk e1 e2 h2 h3 h4
  rcases key A hA with e | e <;> rcases key B hB with f | f <;> rw [e, f] at h1 <;> rcases hc with rfl | rfl | rfl | rfl | rfl | rfl | rfl | rfl | rfl | rfl | rfl | rfl | rfl | rfl | rfl | rfl <;> simp only [Nat.reduceMul, Nat.reducePow] at h1 ⊢ <;> omega
end
section
set_option maxRecDepth 100000 in
set_option maxHeartbeats 4000000 in
theorem c_Model_moved (l : Launch) (P : ks_P) (hP : ks_ok P) (c r : Nat) (hc : c < ks_n P) (hr : r < 8) (x : Int32) (w : Bool) (a b : ks_M) (o : ks_O) (hV : r_V (ks_n P) (ks_T P) b) : kc l P y_Model_moved b_Model_moved 7 (some .int) 4 [.ref (tk_ad (ks_G P) (12, 0, 0)), .int (nI c), .int (nI (8 * c + r)), .int x, .int (q_b w)] a b o (some (.int (k_mv (ks_n P) (ks_S P) (ks_W P) b c r x w).1)) a (k_mv (ks_n P) (ks_S P) (ks_W P) b c r x w).2 o := by
  have hn64 := ks_n64 hP
  have hT64 := ks_T64 hP
  have hc3 : c < 3 := by have := hP.2.1; omega
  cases w with
  | false =>
    refine tk_of hP.2.2.2.2.2 (by decide) rfl (Nat.le_of_ble_eq_true rfl) ?_
    intro p e s m below meth c0 X hlk hret hnm
    refine tk_aload_n X d_Model_moved_0 rfl rfl ?_
    refine tk_iload_n X d_Model_moved_1 rfl rfl ?_
    refine tk_iload_n X d_Model_moved_2 rfl rfl ?_
    refine tk_bipush (v := 63) X d_Model_moved_3 (by decide) ?_
    refine tk_iand X d_Model_moved_5 ?_
    refine tk_iconst (v := 2) X d_Model_moved_6 (by decide) ?_
    refine tk_idiv X d_Model_moved_7 (by decide) ?_
    rw [q_dv x]
    refine tk_iload X d_Model_moved_8 rfl ?_
    refine tk_callV X (kb := (12, 0, 0)) (ks_d0 (by decide)) rfl hc_Model (c_Model_access l P hP c (q_ln x) hc (q_ln_lt x) false a b o hV) (ks_site (n := 3) mc_Model_access mi_Model (by decide +kernel) (by decide) (by decide)) m_Model_113 ms_Model_access mv_Model_access rfl (Nat.le_of_ble_eq_true rfl) ⟨Nat.le_of_ble_eq_true rfl, Nat.le_of_ble_eq_true rfl⟩ rfl d_Model_moved_10 ?_
    cases hf : (k_acc (ks_n P) (ks_S P) (ks_W P) b c (q_ln x) false).1 with
    | none =>
      refine tk_istore X d_Model_moved_13 (by decide) rfl ?_
      refine tk_iload X d_Model_moved_15 rfl ?_
      refine tk_iconst (v := -1) X d_Model_moved_17 (by decide) ?_
      refine tk_icmp_ne (tgt := 23) X d_Model_moved_18 (by decide) (fun h => absurd rfl h) (fun _ => ?_)
      refine tk_iconst (v := 2) X d_Model_moved_21 (by decide) ?_
      have e1 : k_mv (ks_n P) (ks_S P) (ks_W P) b c r x false = (2, (k_acc (ks_n P) (ks_S P) (ks_W P) b c (q_ln x) false).2) := by unfold k_mv; rw [hf]
      exact tk_iret X hlk hret d_Model_moved_22 (by rw [e1]) (fun _ h => h) (Or.inr rfl) (kw_st rfl (by rw [e1]) rfl)
    | some j =>
      have hj : j < ks_T P := k_acc_lt hP hf
      refine tk_istore X d_Model_moved_13 (by decide) rfl ?_
      refine tk_iload X d_Model_moved_15 rfl ?_
      refine tk_iconst (v := -1) X d_Model_moved_17 (by decide) ?_
      refine tk_icmp_ne (tgt := 23) X d_Model_moved_18 (by decide) (fun _ => ?_) (fun h => absurd h (nI_nm1 (Nat.lt_trans (r_pj_lt hP hc hj) (by decide))))
      refine tk_iload_n X d_Model_moved_23 rfl rfl ?_
      refine tk_iconst (v := 1) X d_Model_moved_24 (by decide) ?_
      refine tk_iand X d_Model_moved_25 ?_
      refine tk_if_ne (tgt := 33) X d_Model_moved_26 (by decide) (fun h1 => ?_) (fun h1 => ?_)
      · skip
        refine tk_iconst (v := 0) X d_Model_moved_33 (by decide) ?_
        refine tk_istore X d_Model_moved_34 (by decide) rfl ?_
        refine tk_iload X d_Model_moved_36 rfl ?_
        refine tk_if_ne (tgt := 72) X d_Model_moved_38 (by decide) (fun h => absurd (by decide) h) (fun _ => ?_)
        refine tk_aload_n X d_Model_moved_41 rfl rfl ?_
        refine tk_get X (k := (12, 0, 0)) (dm := ks_dm P) (ks_d0 (by decide)) rfl hc_Model hi_Model 7 (by decide) m_Model_13 (v := .ref (tk_ad (ks_G P) (14, 0, 0))) rfl d_Model_moved_42 ?_
        refine tk_iload_n X d_Model_moved_45 rfl rfl ?_
        refine tk_iload X d_Model_moved_46 rfl ?_
        refine tk_if_eq (tgt := 61) X d_Model_moved_48 (by decide) (fun _ => ?_) (fun h => absurd (by decide) h)
        refine tk_aload_n X d_Model_moved_61 rfl rfl ?_
        refine tk_get X (k := (12, 0, 0)) (dm := ks_dm P) (ks_d0 (by decide)) rfl hc_Model hi_Model 19 (by decide) m_Model_50 (v := .ref (tk_ad (ks_G P) (26, 0, 0))) rfl d_Model_moved_62 ?_
        refine tk_iload X d_Model_moved_65 rfl ?_
        refine kr_iald X (f := 26) (i' := 4) (by decide) (by decide) rfl (by decide) rfl (r_pj_lt hP hc hj) (ks_vk_pj hP hj) rfl d_Model_moved_67 ?_
        refine kr_iast X hP (f := 14) (i' := r) (by decide) (by decide) rfl (by decide) rfl (by omega) (v8k 9 hr) (v8i hr) d_Model_moved_68 ?_
        refine tk_goto (tgt := 106) X d_Model_moved_69 (by decide) ?_
        refine tk_iconst (v := 4) X d_Model_moved_106 (by decide) ?_
        have e2 : ks_up (k_acc (ks_n P) (ks_S P) (ks_W P) b c (q_ln x) false).2 (9, c, 0) r (k_wget (k_acc (ks_n P) (ks_S P) (ks_W P) b c (q_ln x) false).2 c j x) = ks_up (k_acc (ks_n P) (ks_S P) (ks_W P) b c (q_ln x) false).2 (9, c, 0) r ((k_acc (ks_n P) (ks_S P) (ks_W P) b c (q_ln x) false).2 (7, c, j) 4) := by rw [show k_wget (k_acc (ks_n P) (ks_S P) (ks_W P) b c (q_ln x) false).2 c j x = _ from if_neg h1]
        have e1 : k_mv (ks_n P) (ks_S P) (ks_W P) b c r x false = (4, ks_up (k_acc (ks_n P) (ks_S P) (ks_W P) b c (q_ln x) false).2 (9, c, 0) r ((k_acc (ks_n P) (ks_S P) (ks_W P) b c (q_ln x) false).2 (7, c, j) 4)) := by unfold k_mv; rw [hf, ← e2]; rfl
        exact tk_iret X hlk hret d_Model_moved_107 (by rw [e1]) (fun _ h => h) (Or.inr rfl) (kw_st rfl (by rw [e1]) rfl)
      · skip
        refine tk_iconst (v := 1) X d_Model_moved_29 (by decide) ?_
        refine tk_goto (tgt := 34) X d_Model_moved_30 (by decide) ?_
        refine tk_istore X d_Model_moved_34 (by decide) rfl ?_
        refine tk_iload X d_Model_moved_36 rfl ?_
        refine tk_if_ne (tgt := 72) X d_Model_moved_38 (by decide) (fun h => absurd (by decide) h) (fun _ => ?_)
        refine tk_aload_n X d_Model_moved_41 rfl rfl ?_
        refine tk_get X (k := (12, 0, 0)) (dm := ks_dm P) (ks_d0 (by decide)) rfl hc_Model hi_Model 7 (by decide) m_Model_13 (v := .ref (tk_ad (ks_G P) (14, 0, 0))) rfl d_Model_moved_42 ?_
        refine tk_iload_n X d_Model_moved_45 rfl rfl ?_
        refine tk_iload X d_Model_moved_46 rfl ?_
        refine tk_if_eq (tgt := 61) X d_Model_moved_48 (by decide) (fun h => absurd h (by decide)) (fun _ => ?_)
        refine tk_aload_n X d_Model_moved_51 rfl rfl ?_
        refine tk_get X (k := (12, 0, 0)) (dm := ks_dm P) (ks_d0 (by decide)) rfl hc_Model hi_Model 18 (by decide) m_Model_47 (v := .ref (tk_ad (ks_G P) (25, 0, 0))) rfl d_Model_moved_52 ?_
        refine tk_iload X d_Model_moved_55 rfl ?_
        refine kr_iald X (f := 25) (i' := 3) (by decide) (by decide) rfl (by decide) rfl (r_pj_lt hP hc hj) (ks_vk_pj hP hj) rfl d_Model_moved_57 ?_
        refine tk_goto (tgt := 68) X d_Model_moved_58 (by decide) ?_
        refine kr_iast X hP (f := 14) (i' := r) (by decide) (by decide) rfl (by decide) rfl (by omega) (v8k 9 hr) (v8i hr) d_Model_moved_68 ?_
        refine tk_goto (tgt := 106) X d_Model_moved_69 (by decide) ?_
        refine tk_iconst (v := 4) X d_Model_moved_106 (by decide) ?_
        have e2 : ks_up (k_acc (ks_n P) (ks_S P) (ks_W P) b c (q_ln x) false).2 (9, c, 0) r (k_wget (k_acc (ks_n P) (ks_S P) (ks_W P) b c (q_ln x) false).2 c j x) = ks_up (k_acc (ks_n P) (ks_S P) (ks_W P) b c (q_ln x) false).2 (9, c, 0) r ((k_acc (ks_n P) (ks_S P) (ks_W P) b c (q_ln x) false).2 (7, c, j) 3) := by rw [show k_wget (k_acc (ks_n P) (ks_S P) (ks_W P) b c (q_ln x) false).2 c j x = _ from if_pos h1]
        have e1 : k_mv (ks_n P) (ks_S P) (ks_W P) b c r x false = (4, ks_up (k_acc (ks_n P) (ks_S P) (ks_W P) b c (q_ln x) false).2 (9, c, 0) r ((k_acc (ks_n P) (ks_S P) (ks_W P) b c (q_ln x) false).2 (7, c, j) 3)) := by unfold k_mv; rw [hf, ← e2]; rfl
        exact tk_iret X hlk hret d_Model_moved_107 (by rw [e1]) (fun _ h => h) (Or.inr rfl) (kw_st rfl (by rw [e1]) rfl)
  | true =>
    refine tk_of hP.2.2.2.2.2 (by decide) rfl (Nat.le_of_ble_eq_true rfl) ?_
    intro p e s m below meth c0 X hlk hret hnm
    refine tk_aload_n X d_Model_moved_0 rfl rfl ?_
    refine tk_iload_n X d_Model_moved_1 rfl rfl ?_
    refine tk_iload_n X d_Model_moved_2 rfl rfl ?_
    refine tk_bipush (v := 63) X d_Model_moved_3 (by decide) ?_
    refine tk_iand X d_Model_moved_5 ?_
    refine tk_iconst (v := 2) X d_Model_moved_6 (by decide) ?_
    refine tk_idiv X d_Model_moved_7 (by decide) ?_
    rw [q_dv x]
    refine tk_iload X d_Model_moved_8 rfl ?_
    refine tk_callV X (kb := (12, 0, 0)) (ks_d0 (by decide)) rfl hc_Model (c_Model_access l P hP c (q_ln x) hc (q_ln_lt x) true a b o hV) (ks_site (n := 3) mc_Model_access mi_Model (by decide +kernel) (by decide) (by decide)) m_Model_113 ms_Model_access mv_Model_access rfl (Nat.le_of_ble_eq_true rfl) ⟨Nat.le_of_ble_eq_true rfl, Nat.le_of_ble_eq_true rfl⟩ rfl d_Model_moved_10 ?_
    cases hf : (k_acc (ks_n P) (ks_S P) (ks_W P) b c (q_ln x) true).1 with
    | none =>
      refine tk_istore X d_Model_moved_13 (by decide) rfl ?_
      refine tk_iload X d_Model_moved_15 rfl ?_
      refine tk_iconst (v := -1) X d_Model_moved_17 (by decide) ?_
      refine tk_icmp_ne (tgt := 23) X d_Model_moved_18 (by decide) (fun h => absurd rfl h) (fun _ => ?_)
      refine tk_iconst (v := 2) X d_Model_moved_21 (by decide) ?_
      have e1 : k_mv (ks_n P) (ks_S P) (ks_W P) b c r x true = (2, (k_acc (ks_n P) (ks_S P) (ks_W P) b c (q_ln x) true).2) := by unfold k_mv; rw [hf]
      exact tk_iret X hlk hret d_Model_moved_22 (by rw [e1]) (fun _ h => h) (Or.inr rfl) (kw_st rfl (by rw [e1]) rfl)
    | some j =>
      have hj : j < ks_T P := k_acc_lt hP hf
      refine tk_istore X d_Model_moved_13 (by decide) rfl ?_
      refine tk_iload X d_Model_moved_15 rfl ?_
      refine tk_iconst (v := -1) X d_Model_moved_17 (by decide) ?_
      refine tk_icmp_ne (tgt := 23) X d_Model_moved_18 (by decide) (fun _ => ?_) (fun h => absurd h (nI_nm1 (Nat.lt_trans (r_pj_lt hP hc hj) (by decide))))
      refine tk_iload_n X d_Model_moved_23 rfl rfl ?_
      refine tk_iconst (v := 1) X d_Model_moved_24 (by decide) ?_
      refine tk_iand X d_Model_moved_25 ?_
      refine tk_if_ne (tgt := 33) X d_Model_moved_26 (by decide) (fun h1 => ?_) (fun h1 => ?_)
      · skip
        refine tk_iconst (v := 0) X d_Model_moved_33 (by decide) ?_
        refine tk_istore X d_Model_moved_34 (by decide) rfl ?_
        refine tk_iload X d_Model_moved_36 rfl ?_
        refine tk_if_ne (tgt := 72) X d_Model_moved_38 (by decide) (fun _ => ?_) (fun h => absurd h (by decide))
        refine tk_iload X d_Model_moved_72 rfl ?_
        refine tk_if_eq (tgt := 93) X d_Model_moved_74 (by decide) (fun _ => ?_) (fun h => absurd (by decide) h)
        refine tk_aload_n X d_Model_moved_93 rfl rfl ?_
        refine tk_get X (k := (12, 0, 0)) (dm := ks_dm P) (ks_d0 (by decide)) rfl hc_Model hi_Model 19 (by decide) m_Model_50 (v := .ref (tk_ad (ks_G P) (26, 0, 0))) rfl d_Model_moved_94 ?_
        refine tk_iload X d_Model_moved_97 rfl ?_
        refine tk_aload_n X d_Model_moved_99 rfl rfl ?_
        refine tk_get X (k := (12, 0, 0)) (dm := ks_dm P) (ks_d0 (by decide)) rfl hc_Model hi_Model 7 (by decide) m_Model_13 (v := .ref (tk_ad (ks_G P) (14, 0, 0))) rfl d_Model_moved_100 ?_
        refine tk_iload_n X d_Model_moved_103 rfl rfl ?_
        refine kr_iald X (f := 14) (i' := r) (by decide) (by decide) rfl (by decide) rfl (by omega) (v8k 9 hr) (v8i hr) d_Model_moved_104 ?_
        refine kr_iast X hP (f := 26) (i' := 4) (by decide) (by decide) rfl (by decide) rfl (r_pj_lt hP hc hj) (ks_vk_pj hP hj) rfl d_Model_moved_105 ?_
        refine tk_iconst (v := 4) X d_Model_moved_106 (by decide) ?_
        have e2 : k_wput (k_acc (ks_n P) (ks_S P) (ks_W P) b c (q_ln x) true).2 c j x ((k_acc (ks_n P) (ks_S P) (ks_W P) b c (q_ln x) true).2 (9, c, 0) r) = ks_up (k_acc (ks_n P) (ks_S P) (ks_W P) b c (q_ln x) true).2 (7, c, j) 4 ((k_acc (ks_n P) (ks_S P) (ks_W P) b c (q_ln x) true).2 (9, c, 0) r) := if_neg h1
        have e1 : k_mv (ks_n P) (ks_S P) (ks_W P) b c r x true = (4, ks_up (k_acc (ks_n P) (ks_S P) (ks_W P) b c (q_ln x) true).2 (7, c, j) 4 ((k_acc (ks_n P) (ks_S P) (ks_W P) b c (q_ln x) true).2 (9, c, 0) r)) := by unfold k_mv; rw [hf, ← e2]; rfl
        exact tk_iret X hlk hret d_Model_moved_107 (by rw [e1]) (fun _ h => h) (Or.inr rfl) (kw_st rfl (by rw [e1]) rfl)
      · skip
        refine tk_iconst (v := 1) X d_Model_moved_29 (by decide) ?_
        refine tk_goto (tgt := 34) X d_Model_moved_30 (by decide) ?_
        refine tk_istore X d_Model_moved_34 (by decide) rfl ?_
        refine tk_iload X d_Model_moved_36 rfl ?_
        refine tk_if_ne (tgt := 72) X d_Model_moved_38 (by decide) (fun _ => ?_) (fun h => absurd h (by decide))
        refine tk_iload X d_Model_moved_72 rfl ?_
        refine tk_if_eq (tgt := 93) X d_Model_moved_74 (by decide) (fun h => absurd h (by decide)) (fun _ => ?_)
        refine tk_aload_n X d_Model_moved_77 rfl rfl ?_
        refine tk_get X (k := (12, 0, 0)) (dm := ks_dm P) (ks_d0 (by decide)) rfl hc_Model hi_Model 18 (by decide) m_Model_47 (v := .ref (tk_ad (ks_G P) (25, 0, 0))) rfl d_Model_moved_78 ?_
        refine tk_iload X d_Model_moved_81 rfl ?_
        refine tk_aload_n X d_Model_moved_83 rfl rfl ?_
        refine tk_get X (k := (12, 0, 0)) (dm := ks_dm P) (ks_d0 (by decide)) rfl hc_Model hi_Model 7 (by decide) m_Model_13 (v := .ref (tk_ad (ks_G P) (14, 0, 0))) rfl d_Model_moved_84 ?_
        refine tk_iload_n X d_Model_moved_87 rfl rfl ?_
        refine kr_iald X (f := 14) (i' := r) (by decide) (by decide) rfl (by decide) rfl (by omega) (v8k 9 hr) (v8i hr) d_Model_moved_88 ?_
        refine kr_iast X hP (f := 25) (i' := 3) (by decide) (by decide) rfl (by decide) rfl (r_pj_lt hP hc hj) (ks_vk_pj hP hj) rfl d_Model_moved_89 ?_
        refine tk_goto (tgt := 106) X d_Model_moved_90 (by decide) ?_
        refine tk_iconst (v := 4) X d_Model_moved_106 (by decide) ?_
        have e2 : k_wput (k_acc (ks_n P) (ks_S P) (ks_W P) b c (q_ln x) true).2 c j x ((k_acc (ks_n P) (ks_S P) (ks_W P) b c (q_ln x) true).2 (9, c, 0) r) = ks_up (k_acc (ks_n P) (ks_S P) (ks_W P) b c (q_ln x) true).2 (7, c, j) 3 ((k_acc (ks_n P) (ks_S P) (ks_W P) b c (q_ln x) true).2 (9, c, 0) r) := if_pos h1
        have e1 : k_mv (ks_n P) (ks_S P) (ks_W P) b c r x true = (4, ks_up (k_acc (ks_n P) (ks_S P) (ks_W P) b c (q_ln x) true).2 (7, c, j) 3 ((k_acc (ks_n P) (ks_S P) (ks_W P) b c (q_ln x) true).2 (9, c, 0) r)) := by unfold k_mv; rw [hf, ← e2]; rfl
        exact tk_iret X hlk hret d_Model_moved_107 (by rw [e1]) (fun _ h => h) (Or.inr rfl) (kw_st rfl (by rw [e1]) rfl)

set_option maxRecDepth 100000 in
set_option maxHeartbeats 4000000 in
theorem c_Model_fault (l : Launch) (P : ks_P) (hP : ks_ok P) (c : Nat) (hc : c < ks_n P) (x : Int32) (a b : ks_M) (o : ks_O) (hjk : ∀ j, ks_T P ≤ j → b (7, c, j) 2 = 0) (hx : (b (4, c, 0) 6 + 15) &&& 15 = x) : kc l P y_Model_fault b_Model_fault 2 (some .int) 1 [.ref (tk_ad (ks_G P) (12, 0, 0)), .int (nI c)] a b o (some (.int (k_fault (ks_T P) b c x).1)) a (k_fault (ks_T P) b c x).2 o := by
  have hn64 := ks_n64 hP
  have hT64 := ks_T64 hP
  have hc3 : c < 3 := by have := hP.2.1; omega
  refine tk_of hP.2.2.2.2.2 (by decide) rfl (Nat.le_of_ble_eq_true rfl) ?_
  intro p e s m below meth c0 X hlk hr hnm
  refine tk_aload_n X d_Model_fault_0 rfl rfl ?_
  refine tk_get X (k := (12, 0, 0)) (dm := ks_dm P) (ks_d0 (by decide)) rfl hc_Model hi_Model 11 (by decide) m_Model_25 (v := .ref (tk_ad (ks_G P) (18, 0, 0))) rfl d_Model_fault_1 ?_
  refine tk_iload_n X d_Model_fault_4 rfl rfl ?_
  refine kr_iald X (f := 18) (i' := 8) (k' := (4, c, 0)) (by decide) (by decide) rfl (by decide) rfl hc3 rfl rfl d_Model_fault_5 ?_
  refine tk_if_le (tgt := 18) X d_Model_fault_6 (by decide) (fun h1 => ?_) (fun h1 => ?_)
  · skip
    refine tk_aload_n X d_Model_fault_18 rfl rfl ?_
    refine tk_get X (k := (12, 0, 0)) (dm := ks_dm P) (ks_d0 (by decide)) rfl hc_Model hi_Model 13 (by decide) m_Model_31 (v := .ref (tk_ad (ks_G P) (20, 0, 0))) rfl d_Model_fault_19 ?_
    refine tk_iload_n X d_Model_fault_22 rfl rfl ?_
    refine tk_iconst (v := 1) X d_Model_fault_23 (by decide) ?_
    refine kr_zast X hP (w := 1) rfl hc3 (by decide) d_Model_fault_24 ?_
    refine tk_aload_n X d_Model_fault_25 rfl rfl ?_
    refine tk_get X (k := (12, 0, 0)) (dm := ks_dm P) (ks_d0 (by decide)) rfl hc_Model hi_Model 10 (by decide) m_Model_22 (v := .ref (tk_ad (ks_G P) (17, 0, 0))) rfl d_Model_fault_26 ?_
    refine tk_iload_n X d_Model_fault_29 rfl rfl ?_
    refine tk_aload_n X d_Model_fault_30 rfl rfl ?_
    refine tk_get X (k := (12, 0, 0)) (dm := ks_dm P) (ks_d0 (by decide)) rfl hc_Model hi_Model 10 (by decide) m_Model_22 (v := .ref (tk_ad (ks_G P) (17, 0, 0))) rfl d_Model_fault_31 ?_
    refine tk_iload_n X d_Model_fault_34 rfl rfl ?_
    refine kr_iald X (f := 17) (i' := 6) (k' := (4, c, 0)) (by decide) (by decide) rfl (by decide) rfl hc3 rfl rfl d_Model_fault_35 ?_
    refine tk_bipush (v := 15) X d_Model_fault_36 (by decide) ?_
    refine tk_iadd X d_Model_fault_38 ?_
    refine tk_bipush (v := 15) X d_Model_fault_39 (by decide) ?_
    refine tk_iand X d_Model_fault_41 ?_
    refine kr_iast X hP (f := 17) (i' := 6) (k' := (4, c, 0)) (by decide) (by decide) rfl (by decide) rfl hc3 rfl rfl d_Model_fault_42 ?_
    refine tk_iconst (v := 0) X d_Model_fault_43 (by decide) ?_
    have e1 : k_fault (ks_T P) b c x = _ := if_pos h1
    exact tk_iret X hlk hr d_Model_fault_44 (by rw [e1]) (fun _ h => h) (Or.inr rfl) (kw_st rfl (by rw [e1, ← hx, ks_up_ne _ _ (by simp)]) rfl)
  · skip
    refine tk_aload_n X d_Model_fault_9 rfl rfl ?_
    refine tk_iload_n X d_Model_fault_10 rfl rfl ?_
    refine tk_iconst (v := 5) X d_Model_fault_11 (by decide) ?_
    refine tk_iconst (v := 5) X d_Model_fault_12 (by decide) ?_
    refine tk_callV X (kb := (12, 0, 0)) (ks_d0 (by decide)) rfl hc_Model (c_Model_abortK l P hP c 5 hc (by decide) 0 5 (by decide) a b o hjk) (ks_site (n := 3) mc_Model_abort mi_Model (by decide +kernel) (by decide) (by decide)) m_Model_77 ms_Model_abort mv_Model_abort rfl (Nat.le_of_ble_eq_true rfl) ⟨Nat.le_of_ble_eq_true rfl, Nat.le_of_ble_eq_true rfl⟩ rfl d_Model_fault_13 ?_
    refine tk_iconst (v := 2) X d_Model_fault_16 (by decide) ?_
    have e1 : k_fault (ks_T P) b c x = _ := if_neg h1
    exact tk_iret X hlk hr d_Model_fault_17 (by rw [e1]) (fun _ h => h) (Or.inr rfl) (kw_st rfl (by rw [e1]) rfl)

section LP
variable {p : Program} {l : Launch} {e : Env} {R : Room} {s : State} {m : MethodId} {args : Array Value} {below : List Frame} {meth : Method} {c0 : Code} {P : ks_P} {cells slots : Nat} {Q : State → Prop}
set_option maxRecDepth 100000 in
set_option maxHeartbeats 4000000 in
theorem lp_Model_ruled1 (X : tk_X p m c0 s args (ks_G P) R_Model b_Model_ruled 5 WS) (hP : ks_ok P) {c : Nat} (hc : c < ks_n P) (v : Int32) (a b : ks_M) (o : ks_O) (hd : b (4, c, 0) 8 = 0) (kend : tk_go p l e R s m args below meth c0 (ks_G P) (ks_dm P) 5 cells slots Q (ks_sl P a (r_nt b c 8) o) 78 [some (.ref (tk_ad (ks_G P) (12, 0, 0))), some (.int (nI c)), some (.int 9), some (.int v), some (.int (nI (8 * c + 8)))] []) : ∀ (k r : Nat), r + k = 8 → tk_go p l e R s m args below meth c0 (ks_G P) (ks_dm P) 5 cells slots Q (ks_sl P a (r_nt b c r) o) 37 [some (.ref (tk_ad (ks_G P) (12, 0, 0))), some (.int (nI c)), some (.int 9), some (.int v), some (.int (nI (8 * c + r)))] [] := by
  have hn64 := ks_n64 hP
  have hT64 := ks_T64 hP
  intro k
  induction k with
  | zero =>
    intro r hr
    have hr2 : r = 8 := by omega
    subst hr2
    have hc3 : c < 3 := by have := hP.2.1; omega
    refine tk_iload X d_Model_ruled_37 rfl ?_
    refine tk_bipush (v := 8) X d_Model_ruled_39 (by decide) ?_
    refine tk_iload_n X d_Model_ruled_41 rfl rfl ?_
    refine tk_imul X d_Model_ruled_42 ?_
    refine tk_bipush (v := 8) X d_Model_ruled_43 (by decide) ?_
    refine tk_iadd X d_Model_ruled_45 ?_
    refine tk_icmp_ge (tgt := 78) X d_Model_ruled_46 (by decide) (fun _ => ?_) (fun h => absurd (by rw [show (8 : Int32) = nI 8 from rfl, q_mul]; exact nI_le (Nat.le_refl _) (by omega)) h)
    exact kend
  | succ k ih =>
    intro r hr
    have hr2 : r < 8 := by omega
    have hc3 : c < 3 := by have := hP.2.1; omega
    refine tk_iload X d_Model_ruled_37 rfl ?_
    refine tk_bipush (v := 8) X d_Model_ruled_39 (by decide) ?_
    refine tk_iload_n X d_Model_ruled_41 rfl rfl ?_
    refine tk_imul X d_Model_ruled_42 ?_
    refine tk_bipush (v := 8) X d_Model_ruled_43 (by decide) ?_
    refine tk_iadd X d_Model_ruled_45 ?_
    refine tk_icmp_ge (tgt := 78) X d_Model_ruled_46 (by decide) (fun h => absurd h (by rw [show (8 : Int32) = nI 8 from rfl, q_mul]; exact nI_ge (by omega) (by omega))) (fun _ => ?_)
    refine tk_aload_n X d_Model_ruled_49 rfl rfl ?_
    refine tk_get X (k := (12, 0, 0)) (dm := ks_dm P) (ks_d0 (by decide)) rfl hc_Model hi_Model 11 (by decide) m_Model_25 (v := .ref (tk_ad (ks_G P) (18, 0, 0))) rfl d_Model_ruled_50 ?_
    refine tk_iload_n X d_Model_ruled_53 rfl rfl ?_
    refine kr_iald X (f := 18) (i' := 8) (k' := (4, c, 0)) (by decide) (by decide) rfl (by decide) rfl hc3 rfl rfl d_Model_ruled_54 ?_
    refine tk_if_ne (tgt := 78) X d_Model_ruled_55 (by decide) (fun h => absurd (by rw [r_nt_4]; exact hd) h) (fun _ => ?_)
    refine tk_aload_n X d_Model_ruled_58 rfl rfl ?_
    refine tk_get X (k := (12, 0, 0)) (dm := ks_dm P) (ks_d0 (by decide)) rfl hc_Model hi_Model 8 (by decide) m_Model_16 (v := .ref (tk_ad (ks_G P) (15, 0, 0))) rfl d_Model_ruled_59 ?_
    refine tk_iload X d_Model_ruled_62 rfl ?_
    refine tk_aload_n X d_Model_ruled_64 rfl rfl ?_
    refine tk_get X (k := (12, 0, 0)) (dm := ks_dm P) (ks_d0 (by decide)) rfl hc_Model hi_Model 7 (by decide) m_Model_13 (v := .ref (tk_ad (ks_G P) (14, 0, 0))) rfl d_Model_ruled_65 ?_
    refine tk_iload X d_Model_ruled_68 rfl ?_
    refine kr_iald X (f := 14) (i' := r) (by decide) (by decide) rfl (by decide) rfl (by omega) (v8k 9 hr2) (v8i hr2) d_Model_ruled_70 ?_
    refine kr_iast X hP (f := 15) (i' := r) (by decide) (by decide) rfl (by decide) rfl (by omega) (v8k 10 hr2) (v8i hr2) d_Model_ruled_71 ?_
    refine tk_iinc (v := nI (8 * c + (r + 1))) X d_Model_ruled_72 rfl (q_inc _) (by decide) rfl ?_
    refine tk_goto (tgt := 37) X d_Model_ruled_75 (by decide) ?_
    exact ih (r + 1) (by omega)
end LP

section LP
variable {p : Program} {l : Launch} {e : Env} {R : Room} {s : State} {m : MethodId} {args : Array Value} {below : List Frame} {meth : Method} {c0 : Code} {P : ks_P} {cells slots : Nat} {Q : State → Prop}
set_option maxRecDepth 100000 in
set_option maxHeartbeats 4000000 in
theorem lp_Model_ruled2 (X : tk_X p m c0 s args (ks_G P) R_Model b_Model_ruled 5 WS) (hP : ks_ok P) {c : Nat} (hc : c < ks_n P) (v : Int32) (a b : ks_M) (o : ks_O) (kend : tk_go p l e R s m args below meth c0 (ks_G P) (ks_dm P) 5 cells slots Q (ks_sl P a (r_dm (ks_S P) (ks_W P) b c 12) o) 196 [some (.ref (tk_ad (ks_G P) (12, 0, 0))), some (.int (nI c)), some (.int 10), some (.int v), some (.int (nI (12 * c + 12)))] []) : ∀ (k r : Nat), r + k = 12 → tk_go p l e R s m args below meth c0 (ks_G P) (ks_dm P) 5 cells slots Q (ks_sl P a (r_dm (ks_S P) (ks_W P) b c r) o) 170 [some (.ref (tk_ad (ks_G P) (12, 0, 0))), some (.int (nI c)), some (.int 10), some (.int v), some (.int (nI (12 * c + r)))] [] := by
  have hn64 := ks_n64 hP
  have hT64 := ks_T64 hP
  intro k
  induction k with
  | zero =>
    intro r hr
    have hr2 : r = 12 := by omega
    subst hr2
    have hc3 : c < 3 := by have := hP.2.1; omega
    refine tk_iload X d_Model_ruled_170 rfl ?_
    refine tk_bipush (v := 12) X d_Model_ruled_172 (by decide) ?_
    refine tk_iload_n X d_Model_ruled_174 rfl rfl ?_
    refine tk_imul X d_Model_ruled_175 ?_
    refine tk_bipush (v := 12) X d_Model_ruled_176 (by decide) ?_
    refine tk_iadd X d_Model_ruled_178 ?_
    refine tk_icmp_ge (tgt := 196) X d_Model_ruled_179 (by decide) (fun _ => ?_) (fun h => absurd (by rw [show (12 : Int32) = nI 12 from rfl, q_mul]; exact nI_le (Nat.le_refl _) (by omega)) h)
    exact kend
  | succ k ih =>
    intro r hr
    have hr2 : r < 12 := by omega
    have hc3 : c < 3 := by have := hP.2.1; omega
    refine tk_iload X d_Model_ruled_170 rfl ?_
    refine tk_bipush (v := 12) X d_Model_ruled_172 (by decide) ?_
    refine tk_iload_n X d_Model_ruled_174 rfl rfl ?_
    refine tk_imul X d_Model_ruled_175 ?_
    refine tk_bipush (v := 12) X d_Model_ruled_176 (by decide) ?_
    refine tk_iadd X d_Model_ruled_178 ?_
    refine tk_icmp_ge (tgt := 196) X d_Model_ruled_179 (by decide) (fun h => absurd h (by rw [show (12 : Int32) = nI 12 from rfl, q_mul]; exact nI_ge (by omega) (by omega))) (fun _ => ?_)
    refine tk_aload_n X d_Model_ruled_182 rfl rfl ?_
    refine tk_get X (k := (12, 0, 0)) (dm := ks_dm P) (ks_d0 (by decide)) rfl hc_Model hi_Model 17 (by decide) m_Model_44 (v := .ref (tk_ad (ks_G P) (24, 0, 0))) rfl d_Model_ruled_183 ?_
    refine tk_iload X d_Model_ruled_186 rfl ?_
    refine tk_iconst (v := 0) X d_Model_ruled_188 (by decide) ?_
    refine kr_iast X hP (f := 24) (i' := 2) (by decide) (by decide) rfl (by decide) rfl (by omega) (v12k _ _ hr2) rfl d_Model_ruled_189 ?_
    refine tk_iinc (v := nI (12 * c + (r + 1))) X d_Model_ruled_190 rfl (q_inc _) (by decide) rfl ?_
    refine tk_goto (tgt := 170) X d_Model_ruled_193 (by decide) ?_
    exact ih (r + 1) (by omega)
end LP

set_option maxRecDepth 100000 in
set_option maxHeartbeats 4000000 in
theorem c_Model_ruled9 (l : Launch) (P : ks_P) (hP : ks_ok P) (c : Nat) (hc : c < ks_n P) (v : Int32) (a b : ks_M) (o : ks_O) (hjk : ∀ j, ks_T P ≤ j → b (7, c, j) 2 = 0) : kc l P y_Model_ruled b_Model_ruled 5 (some .int) 2 [.ref (tk_ad (ks_G P) (12, 0, 0)), .int (nI c), .int 9, .int v] a b o (some (.int (k_begin (ks_T P) b c v).1)) a (k_begin (ks_T P) b c v).2 o := by
  have hn64 := ks_n64 hP
  have hT64 := ks_T64 hP
  have hc3 : c < 3 := by have := hP.2.1; omega
  refine tk_of hP.2.2.2.2.2 (by decide) rfl (Nat.le_of_ble_eq_true rfl) ?_
  intro p e s m below meth c0 X hlk hr hnm
  refine tk_iload_n X d_Model_ruled_0 rfl rfl ?_
  refine tk_bipush (v := 9) X d_Model_ruled_1 (by decide) ?_
  refine tk_icmp_ne (tgt := 25) X d_Model_ruled_3 (by decide) (fun h => absurd rfl h) (fun _ => ?_)
  refine tk_aload_n X d_Model_ruled_6 rfl rfl ?_
  refine tk_get X (k := (12, 0, 0)) (dm := ks_dm P) (ks_d0 (by decide)) rfl hc_Model hi_Model 11 (by decide) m_Model_25 (v := .ref (tk_ad (ks_G P) (18, 0, 0))) rfl d_Model_ruled_7 ?_
  refine tk_iload_n X d_Model_ruled_10 rfl rfl ?_
  refine kr_iald X (f := 18) (i' := 8) (k' := (4, c, 0)) (by decide) (by decide) rfl (by decide) rfl hc3 rfl rfl d_Model_ruled_11 ?_
  refine tk_iconst (v := 3) X d_Model_ruled_12 (by decide) ?_
  refine tk_icmp_ne (tgt := 25) X d_Model_ruled_13 (by decide) (fun h1 => ?_) (fun h1 => ?_)
  · skip
    refine tk_iload_n X d_Model_ruled_25 rfl rfl ?_
    refine tk_bipush (v := 9) X d_Model_ruled_26 (by decide) ?_
    refine tk_icmp_ne (tgt := 116) X d_Model_ruled_28 (by decide) (fun h => absurd rfl h) (fun _ => ?_)
    refine tk_bipush (v := 8) X d_Model_ruled_31 (by decide) ?_
    refine tk_iload_n X d_Model_ruled_33 rfl rfl ?_
    refine tk_imul X d_Model_ruled_34 ?_
    refine tk_istore X d_Model_ruled_35 (by decide) rfl ?_
    rw [show (8 : Int32) * nI c = nI (8 * c + 0) from by rw [show (8 : Int32) = nI 8 from rfl, pk_mul]; rfl]
    by_cases hd : b (4, c, 0) 8 = 0
    · refine lp_Model_ruled1 X hP hc v a b o hd ?_ 8 0 (by decide)
      refine tk_aload_n X d_Model_ruled_78 rfl rfl ?_
      refine tk_get X (k := (12, 0, 0)) (dm := ks_dm P) (ks_d0 (by decide)) rfl hc_Model hi_Model 11 (by decide) m_Model_25 (v := .ref (tk_ad (ks_G P) (18, 0, 0))) rfl d_Model_ruled_79 ?_
      refine tk_iload_n X d_Model_ruled_82 rfl rfl ?_
      refine kr_iald X (f := 18) (i' := 8) (k' := (4, c, 0)) (by decide) (by decide) rfl (by decide) rfl hc3 rfl rfl d_Model_ruled_83 ?_
      refine tk_if_ne (tgt := 104) X d_Model_ruled_84 (by decide) (fun h => absurd (by rw [r_nt_4]; exact hd) h) (fun _ => ?_)
      refine tk_aload_n X d_Model_ruled_87 rfl rfl ?_
      refine tk_get X (k := (12, 0, 0)) (dm := ks_dm P) (ks_d0 (by decide)) rfl hc_Model hi_Model 12 (by decide) m_Model_28 (v := .ref (tk_ad (ks_G P) (19, 0, 0))) rfl d_Model_ruled_88 ?_
      refine tk_iload_n X d_Model_ruled_91 rfl rfl ?_
      refine tk_aload_n X d_Model_ruled_92 rfl rfl ?_
      refine tk_get X (k := (12, 0, 0)) (dm := ks_dm P) (ks_d0 (by decide)) rfl hc_Model hi_Model 10 (by decide) m_Model_22 (v := .ref (tk_ad (ks_G P) (17, 0, 0))) rfl d_Model_ruled_93 ?_
      refine tk_iload_n X d_Model_ruled_96 rfl rfl ?_
      refine kr_iald X (f := 17) (i' := 6) (k' := (4, c, 0)) (by decide) (by decide) rfl (by decide) rfl hc3 rfl rfl d_Model_ruled_97 ?_
      refine tk_iload_n X d_Model_ruled_98 rfl rfl ?_
      refine tk_iadd X d_Model_ruled_99 ?_
      refine tk_bipush (v := 15) X d_Model_ruled_100 (by decide) ?_
      refine tk_iand X d_Model_ruled_102 ?_
      refine kr_iast X hP (f := 19) (i' := 7) (k' := (4, c, 0)) (by decide) (by decide) rfl (by decide) rfl hc3 rfl rfl d_Model_ruled_103 ?_
      refine tk_aload_n X d_Model_ruled_104 rfl rfl ?_
      refine tk_get X (k := (12, 0, 0)) (dm := ks_dm P) (ks_d0 (by decide)) rfl hc_Model hi_Model 11 (by decide) m_Model_25 (v := .ref (tk_ad (ks_G P) (18, 0, 0))) rfl d_Model_ruled_105 ?_
      refine tk_iload_n X d_Model_ruled_108 rfl rfl ?_
      refine tk_dup2 X rfl rfl d_Model_ruled_109 ?_
      refine kr_iald X (f := 18) (i' := 8) (k' := (4, c, 0)) (by decide) (by decide) rfl (by decide) rfl hc3 rfl rfl d_Model_ruled_110 ?_
      refine tk_iconst (v := 1) X d_Model_ruled_111 (by decide) ?_
      refine tk_iadd X d_Model_ruled_112 ?_
      refine kr_iast X hP (f := 18) (i' := 8) (k' := (4, c, 0)) (by decide) (by decide) rfl (by decide) rfl hc3 rfl rfl d_Model_ruled_113 ?_
      refine tk_iconst (v := 4) X d_Model_ruled_114 (by decide) ?_
      have e1 : k_begin (ks_T P) b c v = (4, k_deep (k_note b c v) c) := (if_neg h1).trans (if_pos hd)
      exact tk_iret X hlk hr d_Model_ruled_115 (by rw [e1]) (fun _ h => h) (Or.inr rfl) (kw_st rfl (by rw [e1, r_nt_at]; rfl) rfl)
    · skip
      refine tk_iload X d_Model_ruled_37 rfl ?_
      refine tk_bipush (v := 8) X d_Model_ruled_39 (by decide) ?_
      refine tk_iload_n X d_Model_ruled_41 rfl rfl ?_
      refine tk_imul X d_Model_ruled_42 ?_
      refine tk_bipush (v := 8) X d_Model_ruled_43 (by decide) ?_
      refine tk_iadd X d_Model_ruled_45 ?_
      refine tk_icmp_ge (tgt := 78) X d_Model_ruled_46 (by decide) (fun h => absurd h (by rw [show (8 : Int32) = nI 8 from rfl, q_mul]; exact nI_ge (by omega) (by omega))) (fun _ => ?_)
      refine tk_aload_n X d_Model_ruled_49 rfl rfl ?_
      refine tk_get X (k := (12, 0, 0)) (dm := ks_dm P) (ks_d0 (by decide)) rfl hc_Model hi_Model 11 (by decide) m_Model_25 (v := .ref (tk_ad (ks_G P) (18, 0, 0))) rfl d_Model_ruled_50 ?_
      refine tk_iload_n X d_Model_ruled_53 rfl rfl ?_
      refine kr_iald X (f := 18) (i' := 8) (k' := (4, c, 0)) (by decide) (by decide) rfl (by decide) rfl hc3 rfl rfl d_Model_ruled_54 ?_
      refine tk_if_ne (tgt := 78) X d_Model_ruled_55 (by decide) (fun _ => ?_) (fun h => absurd h hd)
      refine tk_aload_n X d_Model_ruled_78 rfl rfl ?_
      refine tk_get X (k := (12, 0, 0)) (dm := ks_dm P) (ks_d0 (by decide)) rfl hc_Model hi_Model 11 (by decide) m_Model_25 (v := .ref (tk_ad (ks_G P) (18, 0, 0))) rfl d_Model_ruled_79 ?_
      refine tk_iload_n X d_Model_ruled_82 rfl rfl ?_
      refine kr_iald X (f := 18) (i' := 8) (k' := (4, c, 0)) (by decide) (by decide) rfl (by decide) rfl hc3 rfl rfl d_Model_ruled_83 ?_
      refine tk_if_ne (tgt := 104) X d_Model_ruled_84 (by decide) (fun _ => ?_) (fun h => absurd h hd)
      refine tk_aload_n X d_Model_ruled_104 rfl rfl ?_
      refine tk_get X (k := (12, 0, 0)) (dm := ks_dm P) (ks_d0 (by decide)) rfl hc_Model hi_Model 11 (by decide) m_Model_25 (v := .ref (tk_ad (ks_G P) (18, 0, 0))) rfl d_Model_ruled_105 ?_
      refine tk_iload_n X d_Model_ruled_108 rfl rfl ?_
      refine tk_dup2 X rfl rfl d_Model_ruled_109 ?_
      refine kr_iald X (f := 18) (i' := 8) (k' := (4, c, 0)) (by decide) (by decide) rfl (by decide) rfl hc3 rfl rfl d_Model_ruled_110 ?_
      refine tk_iconst (v := 1) X d_Model_ruled_111 (by decide) ?_
      refine tk_iadd X d_Model_ruled_112 ?_
      refine kr_iast X hP (f := 18) (i' := 8) (k' := (4, c, 0)) (by decide) (by decide) rfl (by decide) rfl hc3 rfl rfl d_Model_ruled_113 ?_
      refine tk_iconst (v := 4) X d_Model_ruled_114 (by decide) ?_
      have e1 : k_begin (ks_T P) b c v = (4, k_deep b c) := (if_neg h1).trans (if_neg hd)
      exact tk_iret X hlk hr d_Model_ruled_115 (by rw [e1]) (fun _ h => h) (Or.inr rfl) (kw_st rfl (by rw [e1]; rfl) rfl)
  · skip
    refine tk_aload_n X d_Model_ruled_16 rfl rfl ?_
    refine tk_iload_n X d_Model_ruled_17 rfl rfl ?_
    refine tk_iconst (v := 3) X d_Model_ruled_18 (by decide) ?_
    refine tk_iconst (v := 3) X d_Model_ruled_19 (by decide) ?_
    refine tk_callV X (kb := (12, 0, 0)) (ks_d0 (by decide)) rfl hc_Model (c_Model_abortK l P hP c 3 hc (by decide) 0 3 (by decide) a b o hjk) (ks_site (n := 3) mc_Model_abort mi_Model (by decide +kernel) (by decide) (by decide)) m_Model_77 ms_Model_abort mv_Model_abort rfl (Nat.le_of_ble_eq_true rfl) ⟨Nat.le_of_ble_eq_true rfl, Nat.le_of_ble_eq_true rfl⟩ rfl d_Model_ruled_20 ?_
    refine tk_iconst (v := 2) X d_Model_ruled_23 (by decide) ?_
    have e1 : k_begin (ks_T P) b c v = _ := if_pos h1
    exact tk_iret X hlk hr d_Model_ruled_24 (by rw [e1]) (fun _ h => h) (Or.inr rfl) (kw_st rfl (by rw [e1]) rfl)

set_option maxRecDepth 100000 in
set_option maxHeartbeats 4000000 in
theorem c_Model_ruled10 (l : Launch) (P : ks_P) (hP : ks_ok P) (c : Nat) (hc : c < ks_n P) (v : Int32) (a b : ks_M) (o : ks_O) (hjk : ∀ j, ks_T P ≤ j → b (7, c, j) 2 = 0) (x : Int32) (hx : (b (4, c, 0) 6 + 15) &&& 15 = x) : kc l P y_Model_ruled b_Model_ruled 5 (some .int) 2 [.ref (tk_ad (ks_G P) (12, 0, 0)), .int (nI c), .int 10, .int v] a b o (some (.int (if b (4, c, 0) 8 = 0 then k_fault (ks_T P) b c x else k_end (ks_T P) b c).1)) a (if b (4, c, 0) 8 = 0 then k_fault (ks_T P) b c x else k_end (ks_T P) b c).2 o := by
  have hn64 := ks_n64 hP
  have hT64 := ks_T64 hP
  have hc3 : c < 3 := by have := hP.2.1; omega
  refine tk_of hP.2.2.2.2.2 (by decide) rfl (Nat.le_of_ble_eq_true rfl) ?_
  intro p e s m below meth c0 X hlk hr hnm
  refine tk_iload_n X d_Model_ruled_0 rfl rfl ?_
  refine tk_bipush (v := 9) X d_Model_ruled_1 (by decide) ?_
  refine tk_icmp_ne (tgt := 25) X d_Model_ruled_3 (by decide) (fun _ => ?_) (fun h => absurd h (by decide))
  refine tk_iload_n X d_Model_ruled_25 rfl rfl ?_
  refine tk_bipush (v := 9) X d_Model_ruled_26 (by decide) ?_
  refine tk_icmp_ne (tgt := 116) X d_Model_ruled_28 (by decide) (fun _ => ?_) (fun h => absurd h (by decide))
  refine tk_iload_n X d_Model_ruled_116 rfl rfl ?_
  refine tk_bipush (v := 10) X d_Model_ruled_117 (by decide) ?_
  refine tk_icmp_ne (tgt := 137) X d_Model_ruled_119 (by decide) (fun h => absurd rfl h) (fun _ => ?_)
  refine tk_aload_n X d_Model_ruled_122 rfl rfl ?_
  refine tk_get X (k := (12, 0, 0)) (dm := ks_dm P) (ks_d0 (by decide)) rfl hc_Model hi_Model 11 (by decide) m_Model_25 (v := .ref (tk_ad (ks_G P) (18, 0, 0))) rfl d_Model_ruled_123 ?_
  refine tk_iload_n X d_Model_ruled_126 rfl rfl ?_
  refine kr_iald X (f := 18) (i' := 8) (k' := (4, c, 0)) (by decide) (by decide) rfl (by decide) rfl hc3 rfl rfl d_Model_ruled_127 ?_
  refine tk_if_ne (tgt := 137) X d_Model_ruled_128 (by decide) (fun h1 => ?_) (fun h1 => ?_)
  · skip
    refine tk_iload_n X d_Model_ruled_137 rfl rfl ?_
    refine tk_bipush (v := 10) X d_Model_ruled_138 (by decide) ?_
    refine tk_icmp_ne (tgt := 211) X d_Model_ruled_140 (by decide) (fun h => absurd rfl h) (fun _ => ?_)
    refine tk_aload_n X d_Model_ruled_143 rfl rfl ?_
    refine tk_get X (k := (12, 0, 0)) (dm := ks_dm P) (ks_d0 (by decide)) rfl hc_Model hi_Model 11 (by decide) m_Model_25 (v := .ref (tk_ad (ks_G P) (18, 0, 0))) rfl d_Model_ruled_144 ?_
    refine tk_iload_n X d_Model_ruled_147 rfl rfl ?_
    refine tk_dup2 X rfl rfl d_Model_ruled_148 ?_
    refine kr_iald X (f := 18) (i' := 8) (k' := (4, c, 0)) (by decide) (by decide) rfl (by decide) rfl hc3 rfl rfl d_Model_ruled_149 ?_
    refine tk_iconst (v := 1) X d_Model_ruled_150 (by decide) ?_
    refine tk_isub X d_Model_ruled_151 ?_
    refine kr_iast X hP (f := 18) (i' := 8) (k' := (4, c, 0)) (by decide) (by decide) rfl (by decide) rfl hc3 rfl rfl d_Model_ruled_152 ?_
    refine tk_aload_n X d_Model_ruled_153 rfl rfl ?_
    refine tk_get X (k := (12, 0, 0)) (dm := ks_dm P) (ks_d0 (by decide)) rfl hc_Model hi_Model 11 (by decide) m_Model_25 (v := .ref (tk_ad (ks_G P) (18, 0, 0))) rfl d_Model_ruled_154 ?_
    refine tk_iload_n X d_Model_ruled_157 rfl rfl ?_
    refine kr_iald X (f := 18) (i' := 8) (k' := (4, c, 0)) (by decide) (by decide) rfl (by decide) rfl hc3 rfl rfl d_Model_ruled_158 ?_
    refine tk_if_le (tgt := 164) X d_Model_ruled_159 (by decide) (fun h2 => ?_) (fun h2 => ?_)
    · skip
      refine tk_bipush (v := 12) X d_Model_ruled_164 (by decide) ?_
      refine tk_iload_n X d_Model_ruled_166 rfl rfl ?_
      refine tk_imul X d_Model_ruled_167 ?_
      refine tk_istore X d_Model_ruled_168 (by decide) rfl ?_
      have er : (if b (4, c, 0) 8 = 0 then k_fault (ks_T P) b c x else k_end (ks_T P) b c) = k_end (ks_T P) b c := if_neg h1
      rw [show (12 : Int32) * nI c = nI (12 * c + 0) from by rw [show (12 : Int32) = nI 12 from rfl, pk_mul]; rfl]
      refine lp_Model_ruled2 X hP hc v a (k_end1 b c) o ?_ 12 0 (by decide)
      refine tk_aload_n X d_Model_ruled_196 rfl rfl ?_
      refine tk_get X (k := (12, 0, 0)) (dm := ks_dm P) (ks_d0 (by decide)) rfl hc_Model hi_Model 14 (by decide) m_Model_35 (v := .ref (tk_ad (ks_G P) (21, 0, 0))) rfl d_Model_ruled_197 ?_
      refine tk_bipush (v := 6) X d_Model_ruled_200 (by decide) ?_
      refine tk_iload_n X d_Model_ruled_202 rfl rfl ?_
      refine tk_imul X d_Model_ruled_203 ?_
      rw [show (6 : Int32) * nI c = nI 6 * nI c + nI 0 from (Int32.add_zero _).symm]
      refine tk_dup2 X rfl rfl d_Model_ruled_204 ?_
      refine kr_iald X (f := 21) (i' := 0) (by decide) (by decide) rfl (by decide) (q_mul 6 c 0) (by omega) (v6k 11 (by decide)) (v6i (by decide)) d_Model_ruled_205 ?_
      refine tk_iconst (v := 1) X d_Model_ruled_206 (by decide) ?_
      refine tk_iadd X d_Model_ruled_207 ?_
      refine kr_iast X hP (f := 21) (i' := 0) (by decide) (by decide) rfl (by decide) (q_mul 6 c 0) (by omega) (v6k 11 (by decide)) (v6i (by decide)) d_Model_ruled_208 ?_
      refine tk_iconst (v := 3) X d_Model_ruled_209 (by decide) ?_
      have e1 : k_end (ks_T P) b c = (3, k_end2 (ks_T P) b c) := if_pos h2
      exact tk_iret X hlk hr d_Model_ruled_210 (by rw [er, e1]) (fun _ h => h) (Or.inr rfl) (kw_st rfl (by rw [er, e1]; unfold k_end2; rw [← r_dm_eq hP (k_end1 b c) c (fun j hj => by unfold k_end1; rw [ks_up_nk _ _ (by simp)]; exact hjk j hj)]) rfl)
    · skip
      refine tk_iconst (v := 4) X d_Model_ruled_162 (by decide) ?_
      have er : (if b (4, c, 0) 8 = 0 then k_fault (ks_T P) b c x else k_end (ks_T P) b c) = k_end (ks_T P) b c := if_neg h1
      have e1 : k_end (ks_T P) b c = (4, k_end1 b c) := if_neg h2
      exact tk_iret X hlk hr d_Model_ruled_163 (by rw [er, e1]) (fun _ h => h) (Or.inr rfl) (kw_st rfl (by rw [er, e1]; rfl) rfl)
  · skip
    refine tk_aload_n X d_Model_ruled_131 rfl rfl ?_
    refine tk_iload_n X d_Model_ruled_132 rfl rfl ?_
    refine tk_callV X (kb := (12, 0, 0)) (ks_d0 (by decide)) rfl hc_Model (c_Model_fault l P hP c hc x a b o hjk hx) (ks_site (n := 1) mc_Model_fault mi_Model (by decide +kernel) (by decide) (by decide)) m_Model_109 ms_Model_fault mv_Model_fault rfl (Nat.le_of_ble_eq_true rfl) ⟨Nat.le_of_ble_eq_true rfl, Nat.le_of_ble_eq_true rfl⟩ rfl d_Model_ruled_133 ?_
    have er : (if b (4, c, 0) 8 = 0 then k_fault (ks_T P) b c x else k_end (ks_T P) b c) = k_fault (ks_T P) b c x := if_pos h1
    exact tk_iret X hlk hr d_Model_ruled_136 (by rw [er]) (fun _ h => h) (Or.inr rfl) (kw_st rfl (by rw [er]) rfl)

set_option maxRecDepth 100000 in
set_option maxHeartbeats 4000000 in
theorem c_Model_ruled11 (l : Launch) (P : ks_P) (hP : ks_ok P) (c : Nat) (hc : c < ks_n P) (v : Int32) (a b : ks_M) (o : ks_O) (hjk : ∀ j, ks_T P ≤ j → b (7, c, j) 2 = 0) : kc l P y_Model_ruled b_Model_ruled 5 (some .int) 2 [.ref (tk_ad (ks_G P) (12, 0, 0)), .int (nI c), .int 11, .int v] a b o (some (.int (k_give (ks_T P) b c v).1)) a (k_give (ks_T P) b c v).2 o := by
  have hn64 := ks_n64 hP
  have hT64 := ks_T64 hP
  have hc3 : c < 3 := by have := hP.2.1; omega
  refine tk_of hP.2.2.2.2.2 (by decide) rfl (Nat.le_of_ble_eq_true rfl) ?_
  intro p e s m below meth c0 X hlk hr hnm
  refine tk_iload_n X d_Model_ruled_0 rfl rfl ?_
  refine tk_bipush (v := 9) X d_Model_ruled_1 (by decide) ?_
  refine tk_icmp_ne (tgt := 25) X d_Model_ruled_3 (by decide) (fun _ => ?_) (fun h => absurd h (by decide))
  refine tk_iload_n X d_Model_ruled_25 rfl rfl ?_
  refine tk_bipush (v := 9) X d_Model_ruled_26 (by decide) ?_
  refine tk_icmp_ne (tgt := 116) X d_Model_ruled_28 (by decide) (fun _ => ?_) (fun h => absurd h (by decide))
  refine tk_iload_n X d_Model_ruled_116 rfl rfl ?_
  refine tk_bipush (v := 10) X d_Model_ruled_117 (by decide) ?_
  refine tk_icmp_ne (tgt := 137) X d_Model_ruled_119 (by decide) (fun _ => ?_) (fun h => absurd h (by decide))
  refine tk_iload_n X d_Model_ruled_137 rfl rfl ?_
  refine tk_bipush (v := 10) X d_Model_ruled_138 (by decide) ?_
  refine tk_icmp_ne (tgt := 211) X d_Model_ruled_140 (by decide) (fun _ => ?_) (fun h => absurd h (by decide))
  refine tk_aload_n X d_Model_ruled_211 rfl rfl ?_
  refine tk_get X (k := (12, 0, 0)) (dm := ks_dm P) (ks_d0 (by decide)) rfl hc_Model hi_Model 11 (by decide) m_Model_25 (v := .ref (tk_ad (ks_G P) (18, 0, 0))) rfl d_Model_ruled_212 ?_
  refine tk_iload_n X d_Model_ruled_215 rfl rfl ?_
  refine kr_iald X (f := 18) (i' := 8) (k' := (4, c, 0)) (by decide) (by decide) rfl (by decide) rfl hc3 rfl rfl d_Model_ruled_216 ?_
  refine tk_if_ne (tgt := 222) X d_Model_ruled_217 (by decide) (fun h1 => ?_) (fun h1 => ?_)
  · skip
    refine tk_aload_n X d_Model_ruled_222 rfl rfl ?_
    refine tk_iload_n X d_Model_ruled_223 rfl rfl ?_
    refine tk_iconst (v := 4) X d_Model_ruled_224 (by decide) ?_
    refine tk_iconst (v := 4) X d_Model_ruled_225 (by decide) ?_
    refine tk_bipush (v := 8) X d_Model_ruled_226 (by decide) ?_
    refine tk_iload_n X d_Model_ruled_228 rfl rfl ?_
    refine tk_sipush (v := 255) X d_Model_ruled_229 (by decide) ?_
    refine tk_iand X d_Model_ruled_232 ?_
    refine tk_imul X d_Model_ruled_233 ?_
    refine tk_iadd X d_Model_ruled_234 ?_
    refine tk_callV X (kb := (12, 0, 0)) (ks_d0 (by decide)) rfl hc_Model (c_Model_abortK l P hP c 4 hc (by decide) (8 * (v &&& 255)) _ rfl a b o hjk) (ks_site (n := 3) mc_Model_abort mi_Model (by decide +kernel) (by decide) (by decide)) m_Model_77 ms_Model_abort mv_Model_abort rfl (Nat.le_of_ble_eq_true rfl) ⟨Nat.le_of_ble_eq_true rfl, Nat.le_of_ble_eq_true rfl⟩ rfl d_Model_ruled_235 ?_
    refine tk_iconst (v := 2) X d_Model_ruled_238 (by decide) ?_
    have e1 : k_give (ks_T P) b c v = _ := if_neg h1
    exact tk_iret X hlk hr d_Model_ruled_239 (by rw [e1]) (fun _ h => h) (Or.inr rfl) (kw_st rfl (by rw [e1]) rfl)
  · skip
    refine tk_iconst (v := 4) X d_Model_ruled_220 (by decide) ?_
    have e1 : k_give (ks_T P) b c v = _ := if_pos h1
    exact tk_iret X hlk hr d_Model_ruled_221 (by rw [e1]) (fun _ h => h) (Or.inr rfl) (kw_st rfl (by rw [e1]) rfl)
end
