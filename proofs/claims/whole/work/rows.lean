section
-- ===== PART A: goes FIRST, ahead of the names: the tables' words, and 'selects' of the private methods out of them =====
/-- a private method of a class that the tables say can be made, by its rows of tables_1 -/
def lw_okq (q : MethodName × Nat) : Prop := (q.1.cls ≠ "java/lang/invoke/MethodHandle" ∧ q.1.cls ≠ "java/lang/invoke/VarHandle") ∧ Cond.instantiable q.1.cls q.2 ∈ tables_1 ∧ Cond.privateMethod q.1 ∈ tables_1 ∧ Cond.instanceMethod q.1 ∈ tables_1
theorem lw_p0 : lw_okq (⟨"OrderMoney", "officeAt", "(I)LOrderMoney$Office;"⟩, 10) := ⟨⟨by decide +kernel, by decide +kernel⟩, List.mem_of_getElem? (i := 10) (by decide +kernel), List.mem_of_getElem? (i := 115) (by decide +kernel), List.mem_of_getElem? (i := 116) (by decide +kernel)⟩
theorem lw_p1 : lw_okq (⟨"OrderMoney", "currencyAt", "(I)LOrderMoney$Currency;"⟩, 10) := ⟨⟨by decide +kernel, by decide +kernel⟩, List.mem_of_getElem? (i := 10) (by decide +kernel), List.mem_of_getElem? (i := 119) (by decide +kernel), List.mem_of_getElem? (i := 120) (by decide +kernel)⟩
theorem lw_p2 : lw_okq (⟨"OrderMoney", "addOrder", "(LOrderMoney$Office;JJLOrderMoney$Currency;I)I"⟩, 10) := ⟨⟨by decide +kernel, by decide +kernel⟩, List.mem_of_getElem? (i := 10) (by decide +kernel), List.mem_of_getElem? (i := 127) (by decide +kernel), List.mem_of_getElem? (i := 128) (by decide +kernel)⟩
theorem lw_p3 : lw_okq (⟨"OrderMoney", "find", "(J)LOrderMoney$Order;"⟩, 10) := ⟨⟨by decide +kernel, by decide +kernel⟩, List.mem_of_getElem? (i := 10) (by decide +kernel), List.mem_of_getElem? (i := 189) (by decide +kernel), List.mem_of_getElem? (i := 190) (by decide +kernel)⟩
theorem lw_p4 : lw_okq (⟨"OrderMoney", "goThroughSteps", "(LOrderMoney$Office;LOrderMoney$Order;IJ)I"⟩, 10) := ⟨⟨by decide +kernel, by decide +kernel⟩, List.mem_of_getElem? (i := 10) (by decide +kernel), List.mem_of_getElem? (i := 199) (by decide +kernel), List.mem_of_getElem? (i := 200) (by decide +kernel)⟩
theorem lw_p5 : lw_okq (⟨"OrderMoney", "takeStep", "(ILOrderMoney$Office;LOrderMoney$Order;IJ)I"⟩, 10) := ⟨⟨by decide +kernel, by decide +kernel⟩, List.mem_of_getElem? (i := 10) (by decide +kernel), List.mem_of_getElem? (i := 207) (by decide +kernel), List.mem_of_getElem? (i := 208) (by decide +kernel)⟩
theorem lw_p6 : lw_okq (⟨"OrderMoney", "writePaid", "(LOrderMoney$Office;LOrderMoney$Order;J)V"⟩, 10) := ⟨⟨by decide +kernel, by decide +kernel⟩, List.mem_of_getElem? (i := 10) (by decide +kernel), List.mem_of_getElem? (i := 224) (by decide +kernel), List.mem_of_getElem? (i := 225) (by decide +kernel)⟩
theorem lw_p7 : lw_okq (⟨"OrderMoney", "undoSteps", "(ILOrderMoney$Office;LOrderMoney$Order;)V"⟩, 10) := ⟨⟨by decide +kernel, by decide +kernel⟩, List.mem_of_getElem? (i := 10) (by decide +kernel), List.mem_of_getElem? (i := 245) (by decide +kernel), List.mem_of_getElem? (i := 246) (by decide +kernel)⟩
theorem lw_p8 : lw_okq (⟨"OrderMoney", "emptyListOf", "(LOrderMoney$Office;)V"⟩, 10) := ⟨⟨by decide +kernel, by decide +kernel⟩, List.mem_of_getElem? (i := 10) (by decide +kernel), List.mem_of_getElem? (i := 320) (by decide +kernel), List.mem_of_getElem? (i := 321) (by decide +kernel)⟩
theorem lw_p9 : lw_okq (⟨"OrderMoney", "changeTill", "(LOrderMoney$Office;J)I"⟩, 10) := ⟨⟨by decide +kernel, by decide +kernel⟩, List.mem_of_getElem? (i := 10) (by decide +kernel), List.mem_of_getElem? (i := 333) (by decide +kernel), List.mem_of_getElem? (i := 334) (by decide +kernel)⟩
theorem lw_p10 : lw_okq (⟨"OrderMoney", "passOn", "(LOrderMoney$Collected;I)Z"⟩, 10) := ⟨⟨by decide +kernel, by decide +kernel⟩, List.mem_of_getElem? (i := 10) (by decide +kernel), List.mem_of_getElem? (i := 376) (by decide +kernel), List.mem_of_getElem? (i := 377) (by decide +kernel)⟩
theorem lw_p11 : lw_okq (⟨"OrderMoney", "sendBack", "(LOrderMoney$Order;)Z"⟩, 10) := ⟨⟨by decide +kernel, by decide +kernel⟩, List.mem_of_getElem? (i := 10) (by decide +kernel), List.mem_of_getElem? (i := 384) (by decide +kernel), List.mem_of_getElem? (i := 385) (by decide +kernel)⟩
theorem lw_p12 : lw_okq (⟨"OrderMoneyModel", "add", "(IJJII)I"⟩, 32) := ⟨⟨by decide +kernel, by decide +kernel⟩, List.mem_of_getElem? (i := 404) (by decide +kernel), List.mem_of_getElem? (i := 524) (by decide +kernel), List.mem_of_getElem? (i := 525) (by decide +kernel)⟩
theorem lw_p13 : lw_okq (⟨"OrderMoneyModel", "find", "(J)I"⟩, 32) := ⟨⟨by decide +kernel, by decide +kernel⟩, List.mem_of_getElem? (i := 404) (by decide +kernel), List.mem_of_getElem? (i := 535) (by decide +kernel), List.mem_of_getElem? (i := 536) (by decide +kernel)⟩
theorem lw_p14 : lw_okq (⟨"OrderMoneyModel", "failsNow", "(II)Z"⟩, 32) := ⟨⟨by decide +kernel, by decide +kernel⟩, List.mem_of_getElem? (i := 404) (by decide +kernel), List.mem_of_getElem? (i := 539) (by decide +kernel), List.mem_of_getElem? (i := 540) (by decide +kernel)⟩
theorem lw_p15 : lw_okq (⟨"OrderMoneyModel", "sumOf", "(I)J"⟩, 32) := ⟨⟨by decide +kernel, by decide +kernel⟩, List.mem_of_getElem? (i := 404) (by decide +kernel), List.mem_of_getElem? (i := 544) (by decide +kernel), List.mem_of_getElem? (i := 545) (by decide +kernel)⟩
def lw_privs_1 : List (MethodName × Nat) := [(⟨"OrderMoney", "officeAt", "(I)LOrderMoney$Office;"⟩, 10), (⟨"OrderMoney", "currencyAt", "(I)LOrderMoney$Currency;"⟩, 10), (⟨"OrderMoney", "addOrder", "(LOrderMoney$Office;JJLOrderMoney$Currency;I)I"⟩, 10), (⟨"OrderMoney", "find", "(J)LOrderMoney$Order;"⟩, 10), (⟨"OrderMoney", "goThroughSteps", "(LOrderMoney$Office;LOrderMoney$Order;IJ)I"⟩, 10), (⟨"OrderMoney", "takeStep", "(ILOrderMoney$Office;LOrderMoney$Order;IJ)I"⟩, 10), (⟨"OrderMoney", "writePaid", "(LOrderMoney$Office;LOrderMoney$Order;J)V"⟩, 10), (⟨"OrderMoney", "undoSteps", "(ILOrderMoney$Office;LOrderMoney$Order;)V"⟩, 10), (⟨"OrderMoney", "emptyListOf", "(LOrderMoney$Office;)V"⟩, 10), (⟨"OrderMoney", "changeTill", "(LOrderMoney$Office;J)I"⟩, 10), (⟨"OrderMoney", "passOn", "(LOrderMoney$Collected;I)Z"⟩, 10), (⟨"OrderMoney", "sendBack", "(LOrderMoney$Order;)Z"⟩, 10), (⟨"OrderMoneyModel", "add", "(IJJII)I"⟩, 32), (⟨"OrderMoneyModel", "find", "(J)I"⟩, 32), (⟨"OrderMoneyModel", "failsNow", "(II)Z"⟩, 32), (⟨"OrderMoneyModel", "sumOf", "(I)J"⟩, 32)]
theorem lw_r1 : ∀ q ∈ lw_privs_1, lw_okq q := List.forall_mem_cons.mpr ⟨lw_p0, List.forall_mem_cons.mpr ⟨lw_p1, List.forall_mem_cons.mpr ⟨lw_p2, List.forall_mem_cons.mpr ⟨lw_p3, List.forall_mem_cons.mpr ⟨lw_p4, List.forall_mem_cons.mpr ⟨lw_p5, List.forall_mem_cons.mpr ⟨lw_p6, List.forall_mem_cons.mpr ⟨lw_p7, List.forall_mem_cons.mpr ⟨lw_p8, List.forall_mem_cons.mpr ⟨lw_p9, List.forall_mem_cons.mpr ⟨lw_p10, List.forall_mem_cons.mpr ⟨lw_p11, List.forall_mem_cons.mpr ⟨lw_p12, List.forall_mem_cons.mpr ⟨lw_p13, List.forall_mem_cons.mpr ⟨lw_p14, List.forall_mem_cons.mpr ⟨lw_p15, fun _ h => absurd h List.not_mem_nil⟩⟩⟩⟩⟩⟩⟩⟩⟩⟩⟩⟩⟩⟩⟩⟩
theorem lw_p16 : lw_okq (⟨"OrderMoneyModel", "listed", "(I)I"⟩, 32) := ⟨⟨by decide +kernel, by decide +kernel⟩, List.mem_of_getElem? (i := 404) (by decide +kernel), List.mem_of_getElem? (i := 591) (by decide +kernel), List.mem_of_getElem? (i := 592) (by decide +kernel)⟩
def lw_privs_2 : List (MethodName × Nat) := [(⟨"OrderMoneyModel", "listed", "(I)I"⟩, 32)]
theorem lw_r2 : ∀ q ∈ lw_privs_2, lw_okq q := List.forall_mem_cons.mpr ⟨lw_p16, fun _ h => absurd h List.not_mem_nil⟩
def lw_privs : List (MethodName × Nat) := lw_privs_1 ++ (lw_privs_2)
def lw_tbl : List Cond := k2_sels lw_privs ++ tables_1
theorem lw_privs_ok : ∀ q ∈ lw_privs, lw_okq q := by
  show ∀ q ∈ lw_privs_1 ++ (lw_privs_2), lw_okq q
  exact List.forall_mem_append.mpr ⟨lw_r1, lw_r2⟩
/-! the words of the tables that go behind a call as they are -/
def lw_g : List Cond := lw_tbl.filter goodWord
theorem lw_good : ∀ w ∈ lw_g, (w.onTables && w.keeps) = true ∨ ∃ ty, w = .arrayClass ty := fun w h => good_of_word (List.mem_filter.mp h).2
theorem gw_of {w0 : Cond} (h0 : w0 ∈ lw_g) : GoodIn lw_g (w0 :: lw_g) := fun w h => (List.mem_cons.mp h).elim (fun e => by rw [e]; exact ⟨h0, lw_good _ h0⟩) (fun h => ⟨h, lw_good _ h⟩)
end
section
def R_X : String := "OrderMoney"
def T_X : u_T := fun k => match k with
  | 0 => ("OrderMoney", "offices", "[LOrderMoney$Office;", true)
  | 1 => ("OrderMoney", "currencies", "[LOrderMoney$Currency;", true)
  | 2 => ("OrderMoney", "orders", "[LOrderMoney$Order;", true)
  | 3 => ("OrderMoney", "orderCount", "I", false)
  | 4 => ("OrderMoney", "tries", "[LOrderMoney$Try;", true)
  | 5 => ("OrderMoney", "asked", "I", false)
  | 6 => ("OrderMoney", "served", "I", false)
  | 7 => ("OrderMoney", "collected", "[LOrderMoney$Collected;", true)
  | 8 => ("OrderMoney", "collectedCount", "I", false)
  | _ => ("OrderMoney", "totals", "[J", true)
def ty_X : Nat → FieldType := fun k => match k with
  | 0 => (.array (.object "OrderMoney$Office"))
  | 1 => (.array (.object "OrderMoney$Currency"))
  | 2 => (.array (.object "OrderMoney$Order"))
  | 3 => .int
  | 4 => (.array (.object "OrderMoney$Try"))
  | 5 => .int
  | 6 => .int
  | 7 => (.array (.object "OrderMoney$Collected"))
  | 8 => .int
  | _ => (.array .long)
theorem nm_X : ∀ a, a < 10 → ∀ b, b < 10 → a ≠ b → (T_X a).2.1 ≠ (T_X b).2.1 := by decide +kernel
theorem ty_X_ok : ∀ k, k < 10 → parseFieldDescriptor (T_X k).2.2.1 = some (ty_X k) := by decide +kernel
theorem in_0 : ∀ w ∈ u_ws R_X T_X 10, w ∈ lw_g := by decide +kernel
def R_M : String := "OrderMoneyModel"
def T_M : u_T := fun k => match k with
  | 0 => ("OrderMoneyModel", "orders", "I", false)
  | 1 => ("OrderMoneyModel", "states", "[I", true)
  | 2 => ("OrderMoneyModel", "cents", "[J", true)
  | 3 => ("OrderMoneyModel", "untils", "[J", true)
  | 4 => ("OrderMoneyModel", "currencies", "[I", true)
  | 5 => ("OrderMoneyModel", "proofs", "[I", true)
  | 6 => ("OrderMoneyModel", "inAt", "[I", true)
  | 7 => ("OrderMoneyModel", "outAt", "[I", true)
  | 8 => ("OrderMoneyModel", "lists", "[I", true)
  | 9 => ("OrderMoneyModel", "barredAt", "[J", true)
  | 10 => ("OrderMoneyModel", "wasBarred", "[Z", true)
  | 11 => ("OrderMoneyModel", "rates", "[J", true)
  | 12 => ("OrderMoneyModel", "tills", "[J", true)
  | 13 => ("OrderMoneyModel", "limits", "[J", true)
  | 14 => ("OrderMoneyModel", "off", "[Z", true)
  | 15 => ("OrderMoneyModel", "failing", "[I", true)
  | 16 => ("OrderMoneyModel", "days", "[J", true)
  | 17 => ("OrderMoneyModel", "paid", "[J", true)
  | 18 => ("OrderMoneyModel", "known", "[I", true)
  | 19 => ("OrderMoneyModel", "knownProofs", "[I", true)
  | 20 => ("OrderMoneyModel", "asked", "I", false)
  | 21 => ("OrderMoneyModel", "served", "I", false)
  | 22 => ("OrderMoneyModel", "askOffice", "[I", true)
  | 23 => ("OrderMoneyModel", "askNumber", "[J", true)
  | 24 => ("OrderMoneyModel", "askProof", "[I", true)
  | 25 => ("OrderMoneyModel", "askTime", "[J", true)
  | 26 => ("OrderMoneyModel", "askAnswer", "[I", true)
  | 27 => ("OrderMoneyModel", "waiting", "I", false)
  | 28 => ("OrderMoneyModel", "sumOffice", "[I", true)
  | 29 => ("OrderMoneyModel", "sumCents", "[J", true)
  | 30 => ("OrderMoneyModel", "sumDay", "[I", true)
  | _ => ("OrderMoneyModel", "totals", "[J", true)
def ty_M : Nat → FieldType := fun k => match k with
  | 0 => .int
  | 1 => (.array .int)
  | 2 => (.array .long)
  | 3 => (.array .long)
  | 4 => (.array .int)
  | 5 => (.array .int)
  | 6 => (.array .int)
  | 7 => (.array .int)
  | 8 => (.array .int)
  | 9 => (.array .long)
  | 10 => (.array .boolean)
  | 11 => (.array .long)
  | 12 => (.array .long)
  | 13 => (.array .long)
  | 14 => (.array .boolean)
  | 15 => (.array .int)
  | 16 => (.array .long)
  | 17 => (.array .long)
  | 18 => (.array .int)
  | 19 => (.array .int)
  | 20 => .int
  | 21 => .int
  | 22 => (.array .int)
  | 23 => (.array .long)
  | 24 => (.array .int)
  | 25 => (.array .long)
  | 26 => (.array .int)
  | 27 => .int
  | 28 => (.array .int)
  | 29 => (.array .long)
  | 30 => (.array .int)
  | _ => (.array .long)
theorem nm_M : ∀ a, a < 32 → ∀ b, b < 32 → a ≠ b → (T_M a).2.1 ≠ (T_M b).2.1 := by decide +kernel
theorem ty_M_ok : ∀ k, k < 32 → parseFieldDescriptor (T_M k).2.2.1 = some (ty_M k) := by decide +kernel
theorem in_1 : ∀ w ∈ u_ws R_M T_M 32, w ∈ lw_g := by decide +kernel
def R_Collected : String := "OrderMoney$Collected"
def T_Collected : u_T := fun k => match k with
  | 0 => ("OrderMoney$Collected", "office", "LOrderMoney$Office;", true)
  | 1 => ("OrderMoney$Collected", "cents", "J", true)
  | _ => ("OrderMoney$Collected", "day", "I", true)
def ty_Collected : Nat → FieldType := fun k => match k with
  | 0 => (.object "OrderMoney$Office")
  | 1 => .long
  | _ => .int
theorem nm_Collected : ∀ a, a < 3 → ∀ b, b < 3 → a ≠ b → (T_Collected a).2.1 ≠ (T_Collected b).2.1 := by decide +kernel
theorem ty_Collected_ok : ∀ k, k < 3 → parseFieldDescriptor (T_Collected k).2.2.1 = some (ty_Collected k) := by decide +kernel
theorem in_2 : ∀ w ∈ u_ws R_Collected T_Collected 3, w ∈ lw_g := by decide +kernel
def R_Currency : String := "OrderMoney$Currency"
def T_Currency : u_T := fun k => match k with
  | _ => ("OrderMoney$Currency", "rate", "J", false)
def ty_Currency : Nat → FieldType := fun k => match k with
  | _ => .long
theorem nm_Currency : ∀ a, a < 1 → ∀ b, b < 1 → a ≠ b → (T_Currency a).2.1 ≠ (T_Currency b).2.1 := by decide +kernel
theorem ty_Currency_ok : ∀ k, k < 1 → parseFieldDescriptor (T_Currency k).2.2.1 = some (ty_Currency k) := by decide +kernel
theorem in_3 : ∀ w ∈ u_ws R_Currency T_Currency 1, w ∈ lw_g := by decide +kernel
def R_Office : String := "OrderMoney$Office"
def T_Office : u_T := fun k => match k with
  | 0 => ("OrderMoney$Office", "place", "I", true)
  | 1 => ("OrderMoney$Office", "cash", "J", false)
  | 2 => ("OrderMoney$Office", "limit", "J", false)
  | 3 => ("OrderMoney$Office", "isCut", "Z", false)
  | 4 => ("OrderMoney$Office", "listed", "I", false)
  | 5 => ("OrderMoney$Office", "stepsToFail", "I", false)
  | 6 => ("OrderMoney$Office", "knownDay", "J", false)
  | 7 => ("OrderMoney$Office", "paidOnDay", "J", false)
  | _ => ("OrderMoney$Office", "latestPaid", "LOrderMoney$Order;", false)
def ty_Office : Nat → FieldType := fun k => match k with
  | 0 => .int
  | 1 => .long
  | 2 => .long
  | 3 => .boolean
  | 4 => .int
  | 5 => .int
  | 6 => .long
  | 7 => .long
  | _ => (.object "OrderMoney$Order")
theorem nm_Office : ∀ a, a < 9 → ∀ b, b < 9 → a ≠ b → (T_Office a).2.1 ≠ (T_Office b).2.1 := by decide +kernel
theorem ty_Office_ok : ∀ k, k < 9 → parseFieldDescriptor (T_Office k).2.2.1 = some (ty_Office k) := by decide +kernel
theorem in_4 : ∀ w ∈ u_ws R_Office T_Office 9, w ∈ lw_g := by decide +kernel
def R_Order : String := "OrderMoney$Order"
def T_Order : u_T := fun k => match k with
  | 0 => ("OrderMoney$Order", "number", "I", true)
  | 1 => ("OrderMoney$Order", "home", "LOrderMoney$Office;", true)
  | 2 => ("OrderMoney$Order", "cents", "J", true)
  | 3 => ("OrderMoney$Order", "until", "J", true)
  | 4 => ("OrderMoney$Order", "currency", "LOrderMoney$Currency;", true)
  | 5 => ("OrderMoney$Order", "proof", "I", true)
  | 6 => ("OrderMoney$Order", "state", "I", false)
  | 7 => ("OrderMoney$Order", "barredSince", "J", false)
  | 8 => ("OrderMoney$Order", "lister", "LOrderMoney$Office;", false)
  | 9 => ("OrderMoney$Order", "payer", "LOrderMoney$Office;", false)
  | _ => ("OrderMoney$Order", "paidBefore", "LOrderMoney$Order;", false)
def ty_Order : Nat → FieldType := fun k => match k with
  | 0 => .int
  | 1 => (.object "OrderMoney$Office")
  | 2 => .long
  | 3 => .long
  | 4 => (.object "OrderMoney$Currency")
  | 5 => .int
  | 6 => .int
  | 7 => .long
  | 8 => (.object "OrderMoney$Office")
  | 9 => (.object "OrderMoney$Office")
  | _ => (.object "OrderMoney$Order")
theorem nm_Order : ∀ a, a < 11 → ∀ b, b < 11 → a ≠ b → (T_Order a).2.1 ≠ (T_Order b).2.1 := by decide +kernel
theorem ty_Order_ok : ∀ k, k < 11 → parseFieldDescriptor (T_Order k).2.2.1 = some (ty_Order k) := by decide +kernel
theorem in_5 : ∀ w ∈ u_ws R_Order T_Order 11, w ∈ lw_g := by decide +kernel
def R_Try : String := "OrderMoney$Try"
def T_Try : u_T := fun k => match k with
  | 0 => ("OrderMoney$Try", "office", "I", true)
  | 1 => ("OrderMoney$Try", "number", "J", true)
  | 2 => ("OrderMoney$Try", "proof", "I", true)
  | 3 => ("OrderMoney$Try", "t", "J", true)
  | _ => ("OrderMoney$Try", "cameTo", "I", false)
def ty_Try : Nat → FieldType := fun k => match k with
  | 0 => .int
  | 1 => .long
  | 2 => .int
  | 3 => .long
  | _ => .int
theorem nm_Try : ∀ a, a < 5 → ∀ b, b < 5 → a ≠ b → (T_Try a).2.1 ≠ (T_Try b).2.1 := by decide +kernel
theorem ty_Try_ok : ∀ k, k < 5 → parseFieldDescriptor (T_Try k).2.2.1 = some (ty_Try k) := by decide +kernel
theorem in_6 : ∀ w ∈ u_ws R_Try T_Try 5, w ∈ lw_g := by decide +kernel
abbrev vwCl : List vw_C := [(R_X, T_X, 10), (R_M, T_M, 32), (R_Collected, T_Collected, 3), (R_Currency, T_Currency, 1), (R_Office, T_Office, 9), (R_Order, T_Order, 11), (R_Try, T_Try, 5)]
abbrev c_X_init : ByteArray := prog_1_method_1_code
def y_X_init : MethodName := ⟨R_X, "<init>", "()V"⟩
def ws_X_init : List Cond := .code y_X_init c_X_init 2 none :: lw_g
abbrev c_X_order : ByteArray := prog_1_method_2_code
def y_X_order : MethodName := ⟨R_X, "order", "(IJJII)I"⟩
def ws_X_order : List Cond := .code y_X_order c_X_order 10 (some .int) :: lw_g
abbrev c_X_pay : ByteArray := prog_1_method_3_code
def y_X_pay : MethodName := ⟨R_X, "pay", "(IJIJ)I"⟩
def ws_X_pay : List Cond := .code y_X_pay c_X_pay 9 (some .int) :: lw_g
abbrev c_X_fails : ByteArray := prog_1_method_4_code
def y_X_fails : MethodName := ⟨R_X, "fails", "(II)I"⟩
def ws_X_fails : List Cond := .code y_X_fails c_X_fails 4 (some .int) :: lw_g
abbrev c_X_ask : ByteArray := prog_1_method_5_code
def y_X_ask : MethodName := ⟨R_X, "ask", "(IJIJ)I"⟩
def ws_X_ask : List Cond := .code y_X_ask c_X_ask 7 (some .int) :: lw_g
abbrev c_X_serve : ByteArray := prog_1_method_6_code
def y_X_serve : MethodName := ⟨R_X, "serve", "(I)I"⟩
def ws_X_serve : List Cond := .code y_X_serve c_X_serve 5 (some .int) :: lw_g
abbrev c_X_answer : ByteArray := prog_1_method_7_code
def y_X_answer : MethodName := ⟨R_X, "answer", "(I)I"⟩
def ws_X_answer : List Cond := .code y_X_answer c_X_answer 3 (some .int) :: lw_g
abbrev c_X_bar : ByteArray := prog_1_method_8_code
def y_X_bar : MethodName := ⟨R_X, "bar", "(JJ)I"⟩
def ws_X_bar : List Cond := .code y_X_bar c_X_bar 6 (some .int) :: lw_g
abbrev c_X_since : ByteArray := prog_1_method_9_code
def y_X_since : MethodName := ⟨R_X, "since", "(J)J"⟩
def ws_X_since : List Cond := .code y_X_since c_X_since 4 (some .long) :: lw_g
abbrev c_X_replace : ByteArray := prog_1_method_10_code
def y_X_replace : MethodName := ⟨R_X, "replace", "(J)I"⟩
def ws_X_replace : List Cond := .code y_X_replace c_X_replace 4 (some .int) :: lw_g
abbrev c_X_cut : ByteArray := prog_1_method_11_code
def y_X_cut : MethodName := ⟨R_X, "cut", "(IZ)I"⟩
def ws_X_cut : List Cond := .code y_X_cut c_X_cut 4 (some .int) :: lw_g
abbrev c_X_list : ByteArray := prog_1_method_12_code
def y_X_list : MethodName := ⟨R_X, "list", "(IJ)I"⟩
def ws_X_list : List Cond := .code y_X_list c_X_list 6 (some .int) :: lw_g
abbrev c_X_set : ByteArray := prog_1_method_13_code
def y_X_set : MethodName := ⟨R_X, "set", "(IIJ)I"⟩
def ws_X_set : List Cond := .code y_X_set c_X_set 5 (some .int) :: lw_g
abbrev c_X_collect : ByteArray := prog_1_method_14_code
def y_X_collect : MethodName := ⟨R_X, "collect", "(IJI)I"⟩
def ws_X_collect : List Cond := .code y_X_collect c_X_collect 6 (some .int) :: lw_g
abbrev c_X_pass : ByteArray := prog_1_method_15_code
def y_X_pass : MethodName := ⟨R_X, "pass", "(I)I"⟩
def ws_X_pass : List Cond := .code y_X_pass c_X_pass 6 (some .int) :: lw_g
abbrev c_X_tick : ByteArray := prog_1_method_16_code
def y_X_tick : MethodName := ⟨R_X, "tick", "(J)I"⟩
def ws_X_tick : List Cond := .code y_X_tick c_X_tick 6 (some .int) :: lw_g
abbrev c_X_about : ByteArray := prog_1_method_17_code
def y_X_about : MethodName := ⟨R_X, "about", "(JI)J"⟩
def ws_X_about : List Cond := .code y_X_about c_X_about 5 (some .long) :: lw_g
abbrev c_X_till : ByteArray := prog_1_method_18_code
def y_X_till : MethodName := ⟨R_X, "till", "(I)J"⟩
def ws_X_till : List Cond := .code y_X_till c_X_till 3 (some .long) :: lw_g
abbrev c_X_all : ByteArray := prog_1_method_19_code
def y_X_all : MethodName := ⟨R_X, "all", "(I)J"⟩
def ws_X_all : List Cond := .code y_X_all c_X_all 2 (some .long) :: lw_g
abbrev c_X_officeAt : ByteArray := prog_1_method_20_code
def y_X_officeAt : MethodName := ⟨R_X, "officeAt", "(I)LOrderMoney$Office;"⟩
def ws_X_officeAt : List Cond := .code y_X_officeAt c_X_officeAt 2 (some (.object "OrderMoney$Office")) :: lw_g
abbrev c_X_currencyAt : ByteArray := prog_1_method_21_code
def y_X_currencyAt : MethodName := ⟨R_X, "currencyAt", "(I)LOrderMoney$Currency;"⟩
def ws_X_currencyAt : List Cond := .code y_X_currencyAt c_X_currencyAt 2 (some (.object "OrderMoney$Currency")) :: lw_g
abbrev c_X_placeOf : ByteArray := prog_1_method_22_code
def y_X_placeOf : MethodName := ⟨R_X, "placeOf", "(LOrderMoney$Office;)J"⟩
def ws_X_placeOf : List Cond := .code y_X_placeOf c_X_placeOf 1 (some .long) :: lw_g
abbrev c_X_isOrderable : ByteArray := prog_1_method_23_code
def y_X_isOrderable : MethodName := ⟨R_X, "isOrderable", "(J)Z"⟩
def ws_X_isOrderable : List Cond := .code y_X_isOrderable c_X_isOrderable 2 (some .boolean) :: lw_g
abbrev c_X_isCollectDay : ByteArray := prog_1_method_24_code
def y_X_isCollectDay : MethodName := ⟨R_X, "isCollectDay", "(I)Z"⟩
def ws_X_isCollectDay : List Cond := .code y_X_isCollectDay c_X_isCollectDay 1 (some .boolean) :: lw_g
abbrev c_X_find : ByteArray := prog_1_method_25_code
def y_X_find : MethodName := ⟨R_X, "find", "(J)LOrderMoney$Order;"⟩
def ws_X_find : List Cond := .code y_X_find c_X_find 6 (some (.object "OrderMoney$Order")) :: lw_g
abbrev c_X_addOrder : ByteArray := prog_1_method_26_code
def y_X_addOrder : MethodName := ⟨R_X, "addOrder", "(LOrderMoney$Office;JJLOrderMoney$Currency;I)I"⟩
def ws_X_addOrder : List Cond := .code y_X_addOrder c_X_addOrder 9 (some .int) :: lw_g
abbrev c_X_numberOf : ByteArray := prog_1_method_27_code
def y_X_numberOf : MethodName := ⟨R_X, "numberOf", "(I)I"⟩
def ws_X_numberOf : List Cond := .code y_X_numberOf c_X_numberOf 4 (some .int) :: lw_g
abbrev c_X_goThroughSteps : ByteArray := prog_1_method_28_code
def y_X_goThroughSteps : MethodName := ⟨R_X, "goThroughSteps", "(LOrderMoney$Office;LOrderMoney$Order;IJ)I"⟩
def ws_X_goThroughSteps : List Cond := .code y_X_goThroughSteps c_X_goThroughSteps 9 (some .int) :: lw_g
abbrev c_X_takeStep : ByteArray := prog_1_method_29_code
def y_X_takeStep : MethodName := ⟨R_X, "takeStep", "(ILOrderMoney$Office;LOrderMoney$Order;IJ)I"⟩
def ws_X_takeStep : List Cond := .code y_X_takeStep c_X_takeStep 7 (some .int) :: lw_g
abbrev c_X_undoSteps : ByteArray := prog_1_method_30_code
def y_X_undoSteps : MethodName := ⟨R_X, "undoSteps", "(ILOrderMoney$Office;LOrderMoney$Order;)V"⟩
def ws_X_undoSteps : List Cond := .code y_X_undoSteps c_X_undoSteps 5 none :: lw_g
abbrev c_X_writePaid : ByteArray := prog_1_method_31_code
def y_X_writePaid : MethodName := ⟨R_X, "writePaid", "(LOrderMoney$Office;LOrderMoney$Order;J)V"⟩
def ws_X_writePaid : List Cond := .code y_X_writePaid c_X_writePaid 5 none :: lw_g
abbrev c_X_emptyListOf : ByteArray := prog_1_method_32_code
def y_X_emptyListOf : MethodName := ⟨R_X, "emptyListOf", "(LOrderMoney$Office;)V"⟩
def ws_X_emptyListOf : List Cond := .code y_X_emptyListOf c_X_emptyListOf 4 none :: lw_g
abbrev c_X_changeTill : ByteArray := prog_1_method_33_code
def y_X_changeTill : MethodName := ⟨R_X, "changeTill", "(LOrderMoney$Office;J)I"⟩
def ws_X_changeTill : List Cond := .code y_X_changeTill c_X_changeTill 4 (some .int) :: lw_g
abbrev c_X_changeLimit : ByteArray := prog_1_method_34_code
def y_X_changeLimit : MethodName := ⟨R_X, "changeLimit", "(LOrderMoney$Office;J)I"⟩
def ws_X_changeLimit : List Cond := .code y_X_changeLimit c_X_changeLimit 3 (some .int) :: lw_g
abbrev c_X_changeRate : ByteArray := prog_1_method_35_code
def y_X_changeRate : MethodName := ⟨R_X, "changeRate", "(LOrderMoney$Currency;J)I"⟩
def ws_X_changeRate : List Cond := .code y_X_changeRate c_X_changeRate 3 (some .int) :: lw_g
abbrev c_X_passOn : ByteArray := prog_1_method_36_code
def y_X_passOn : MethodName := ⟨R_X, "passOn", "(LOrderMoney$Collected;I)Z"⟩
def ws_X_passOn : List Cond := .code y_X_passOn c_X_passOn 3 (some .boolean) :: lw_g
abbrev c_X_sendBack : ByteArray := prog_1_method_37_code
def y_X_sendBack : MethodName := ⟨R_X, "sendBack", "(LOrderMoney$Order;)Z"⟩
def ws_X_sendBack : List Cond := .code y_X_sendBack c_X_sendBack 2 (some .boolean) :: lw_g
abbrev c_M_init : ByteArray := prog_8_method_1_code
def y_M_init : MethodName := ⟨R_M, "<init>", "()V"⟩
def ws_M_init : List Cond := .code y_M_init c_M_init 1 none :: lw_g
abbrev c_M_in : ByteArray := prog_8_method_3_code
def y_M_in : MethodName := ⟨R_M, "in", "(JJJ)Z"⟩
def ws_M_in : List Cond := .code y_M_in c_M_in 6 (some .boolean) :: lw_g
abbrev c_M_isOffice : ByteArray := prog_8_method_4_code
def y_M_isOffice : MethodName := ⟨R_M, "isOffice", "(I)Z"⟩
def ws_M_isOffice : List Cond := .code y_M_isOffice c_M_isOffice 1 (some .boolean) :: lw_g
abbrev c_M_numberOf : ByteArray := prog_8_method_5_code
def y_M_numberOf : MethodName := ⟨R_M, "numberOf", "(I)I"⟩
def ws_M_numberOf : List Cond := .code y_M_numberOf c_M_numberOf 4 (some .int) :: lw_g
abbrev c_M_find : ByteArray := prog_8_method_6_code
def y_M_find : MethodName := ⟨R_M, "find", "(J)I"⟩
def ws_M_find : List Cond := .code y_M_find c_M_find 4 (some .int) :: lw_g
abbrev c_M_add : ByteArray := prog_8_method_7_code
def y_M_add : MethodName := ⟨R_M, "add", "(IJJII)I"⟩
def ws_M_add : List Cond := .code y_M_add c_M_add 8 (some .int) :: lw_g
abbrev c_M_order : ByteArray := prog_8_method_8_code
def y_M_order : MethodName := ⟨R_M, "order", "(IJJII)I"⟩
def ws_M_order : List Cond := .code y_M_order c_M_order 8 (some .int) :: lw_g
abbrev c_M_sumOf : ByteArray := prog_8_method_9_code
def y_M_sumOf : MethodName := ⟨R_M, "sumOf", "(I)J"⟩
def ws_M_sumOf : List Cond := .code y_M_sumOf c_M_sumOf 2 (some .long) :: lw_g
abbrev c_M_failsNow : ByteArray := prog_8_method_10_code
def y_M_failsNow : MethodName := ⟨R_M, "failsNow", "(II)Z"⟩
def ws_M_failsNow : List Cond := .code y_M_failsNow c_M_failsNow 4 (some .boolean) :: lw_g
abbrev c_M_pay : ByteArray := prog_8_method_11_code
def y_M_pay : MethodName := ⟨R_M, "pay", "(IJIJ)I"⟩
def ws_M_pay : List Cond := .code y_M_pay c_M_pay 17 (some .int) :: lw_g
abbrev c_M_fails : ByteArray := prog_8_method_12_code
def y_M_fails : MethodName := ⟨R_M, "fails", "(II)I"⟩
def ws_M_fails : List Cond := .code y_M_fails c_M_fails 4 (some .int) :: lw_g
abbrev c_M_ask : ByteArray := prog_8_method_13_code
def y_M_ask : MethodName := ⟨R_M, "ask", "(IJIJ)I"⟩
def ws_M_ask : List Cond := .code y_M_ask c_M_ask 7 (some .int) :: lw_g
abbrev c_M_serve : ByteArray := prog_8_method_14_code
def y_M_serve : MethodName := ⟨R_M, "serve", "(I)I"⟩
def ws_M_serve : List Cond := .code y_M_serve c_M_serve 4 (some .int) :: lw_g
abbrev c_M_answer : ByteArray := prog_8_method_15_code
def y_M_answer : MethodName := ⟨R_M, "answer", "(I)I"⟩
def ws_M_answer : List Cond := .code y_M_answer c_M_answer 2 (some .int) :: lw_g
abbrev c_M_bar : ByteArray := prog_8_method_16_code
def y_M_bar : MethodName := ⟨R_M, "bar", "(JJ)I"⟩
def ws_M_bar : List Cond := .code y_M_bar c_M_bar 6 (some .int) :: lw_g
abbrev c_M_since : ByteArray := prog_8_method_17_code
def y_M_since : MethodName := ⟨R_M, "since", "(J)J"⟩
def ws_M_since : List Cond := .code y_M_since c_M_since 4 (some .long) :: lw_g
abbrev c_M_replace : ByteArray := prog_8_method_18_code
def y_M_replace : MethodName := ⟨R_M, "replace", "(J)I"⟩
def ws_M_replace : List Cond := .code y_M_replace c_M_replace 4 (some .int) :: lw_g
abbrev c_M_tick : ByteArray := prog_8_method_19_code
def y_M_tick : MethodName := ⟨R_M, "tick", "(J)I"⟩
def ws_M_tick : List Cond := .code y_M_tick c_M_tick 6 (some .int) :: lw_g
abbrev c_M_listed : ByteArray := prog_8_method_20_code
def y_M_listed : MethodName := ⟨R_M, "listed", "(I)I"⟩
def ws_M_listed : List Cond := .code y_M_listed c_M_listed 4 (some .int) :: lw_g
abbrev c_M_cut : ByteArray := prog_8_method_21_code
def y_M_cut : MethodName := ⟨R_M, "cut", "(IZ)I"⟩
def ws_M_cut : List Cond := .code y_M_cut c_M_cut 4 (some .int) :: lw_g
abbrev c_M_list : ByteArray := prog_8_method_22_code
def y_M_list : MethodName := ⟨R_M, "list", "(IJ)I"⟩
def ws_M_list : List Cond := .code y_M_list c_M_list 5 (some .int) :: lw_g
abbrev c_M_set : ByteArray := prog_8_method_23_code
def y_M_set : MethodName := ⟨R_M, "set", "(IIJ)I"⟩
def ws_M_set : List Cond := .code y_M_set c_M_set 5 (some .int) :: lw_g
abbrev c_M_collect : ByteArray := prog_8_method_24_code
def y_M_collect : MethodName := ⟨R_M, "collect", "(IJI)I"⟩
def ws_M_collect : List Cond := .code y_M_collect c_M_collect 5 (some .int) :: lw_g
abbrev c_M_pass : ByteArray := prog_8_method_25_code
def y_M_pass : MethodName := ⟨R_M, "pass", "(I)I"⟩
def ws_M_pass : List Cond := .code y_M_pass c_M_pass 5 (some .int) :: lw_g
abbrev c_M_about : ByteArray := prog_8_method_26_code
def y_M_about : MethodName := ⟨R_M, "about", "(JI)J"⟩
def ws_M_about : List Cond := .code y_M_about c_M_about 5 (some .long) :: lw_g
abbrev c_M_till : ByteArray := prog_8_method_27_code
def y_M_till : MethodName := ⟨R_M, "till", "(I)J"⟩
def ws_M_till : List Cond := .code y_M_till c_M_till 2 (some .long) :: lw_g
abbrev c_M_all : ByteArray := prog_8_method_28_code
def y_M_all : MethodName := ⟨R_M, "all", "(I)J"⟩
def ws_M_all : List Cond := .code y_M_all c_M_all 2 (some .long) :: lw_g
abbrev c_Collected_init : ByteArray := prog_2_method_1_code
def y_Collected_init : MethodName := ⟨R_Collected, "<init>", "(LOrderMoney$Office;JI)V"⟩
def ws_Collected_init : List Cond := .code y_Collected_init c_Collected_init 5 none :: lw_g
abbrev c_Currency_init : ByteArray := prog_3_method_1_code
def y_Currency_init : MethodName := ⟨R_Currency, "<init>", "()V"⟩
def ws_Currency_init : List Cond := .code y_Currency_init c_Currency_init 1 none :: lw_g
abbrev c_Office_init : ByteArray := prog_4_method_1_code
def y_Office_init : MethodName := ⟨R_Office, "<init>", "(I)V"⟩
def ws_Office_init : List Cond := .code y_Office_init c_Office_init 2 none :: lw_g
abbrev c_Office_mayTouch : ByteArray := prog_4_method_2_code
def y_Office_mayTouch : MethodName := ⟨R_Office, "mayTouch", "(LOrderMoney$Order;)Z"⟩
def ws_Office_mayTouch : List Cond := .code y_Office_mayTouch c_Office_mayTouch 2 (some .boolean) :: lw_g
abbrev c_Office_tellToFail : ByteArray := prog_4_method_3_code
def y_Office_tellToFail : MethodName := ⟨R_Office, "tellToFail", "(I)Z"⟩
def ws_Office_tellToFail : List Cond := .code y_Office_tellToFail c_Office_tellToFail 4 (some .boolean) :: lw_g
abbrev c_Office_takesFailing : ByteArray := prog_4_method_4_code
def y_Office_takesFailing : MethodName := ⟨R_Office, "takesFailing", "(I)Z"⟩
def ws_Office_takesFailing : List Cond := .code y_Office_takesFailing c_Office_takesFailing 4 (some .boolean) :: lw_g
abbrev c_Office_keepsLimit : ByteArray := prog_4_method_5_code
def y_Office_keepsLimit : MethodName := ⟨R_Office, "keepsLimit", "(JJ)Z"⟩
def ws_Office_keepsLimit : List Cond := .code y_Office_keepsLimit c_Office_keepsLimit 7 (some .boolean) :: lw_g
abbrev c_Office_giveOut : ByteArray := prog_4_method_6_code
def y_Office_giveOut : MethodName := ⟨R_Office, "giveOut", "(J)Z"⟩
def ws_Office_giveOut : List Cond := .code y_Office_giveOut c_Office_giveOut 3 (some .boolean) :: lw_g
abbrev c_Office_know : ByteArray := prog_4_method_7_code
def y_Office_know : MethodName := ⟨R_Office, "know", "(LOrderMoney$Order;J)V"⟩
def ws_Office_know : List Cond := .code y_Office_know c_Office_know 4 none :: lw_g
abbrev c_Office_knownWith : ByteArray := prog_4_method_8_code
def y_Office_knownWith : MethodName := ⟨R_Office, "knownWith", "(I)I"⟩
def ws_Office_knownWith : List Cond := .code y_Office_knownWith c_Office_knownWith 4 (some .int) :: lw_g
abbrev c_Order_init : ByteArray := prog_5_method_1_code
def y_Order_init : MethodName := ⟨R_Order, "<init>", "(ILOrderMoney$Office;JJLOrderMoney$Currency;I)V"⟩
def ws_Order_init : List Cond := .code y_Order_init c_Order_init 9 none :: lw_g
abbrev c_Order_isUnpaid : ByteArray := prog_5_method_2_code
def y_Order_isUnpaid : MethodName := ⟨R_Order, "isUnpaid", "()Z"⟩
def ws_Order_isUnpaid : List Cond := .code y_Order_isUnpaid c_Order_isUnpaid 1 (some .boolean) :: lw_g
abbrev c_Order_sum : ByteArray := prog_5_method_3_code
def y_Order_sum : MethodName := ⟨R_Order, "sum", "()J"⟩
def ws_Order_sum : List Cond := .code y_Order_sum c_Order_sum 1 (some .long) :: lw_g
abbrev c_Order_become : ByteArray := prog_5_method_4_code
def y_Order_become : MethodName := ⟨R_Order, "become", "(I)V"⟩
def ws_Order_become : List Cond := .code y_Order_become c_Order_become 2 none :: lw_g
abbrev c_Order_leaveList : ByteArray := prog_5_method_5_code
def y_Order_leaveList : MethodName := ⟨R_Order, "leaveList", "()V"⟩
def ws_Order_leaveList : List Cond := .code y_Order_leaveList c_Order_leaveList 1 none :: lw_g
abbrev c_Try_init : ByteArray := prog_6_method_1_code
def y_Try_init : MethodName := ⟨R_Try, "<init>", "(IJIJ)V"⟩
def ws_Try_init : List Cond := .code y_Try_init c_Try_init 7 none :: lw_g
theorem wd_1 : (Jvm.Cond.initialized "OrderMoney") ∈ lw_g := List.mem_filter.mpr ⟨List.mem_append_right _ (List.mem_append_left _ (List.mem_of_getElem? (i := 1) rfl)), rfl⟩
theorem wd_2 : (Jvm.Cond.initialized "OrderMoney$Office") ∈ lw_g := List.mem_filter.mpr ⟨List.mem_append_right _ (List.mem_append_left _ (List.mem_of_getElem? (i := 2) rfl)), rfl⟩
theorem wd_3 : (Jvm.Cond.initialized "OrderMoney$Currency") ∈ lw_g := List.mem_filter.mpr ⟨List.mem_append_right _ (List.mem_append_left _ (List.mem_of_getElem? (i := 3) rfl)), rfl⟩
theorem wd_4 : (Jvm.Cond.initialized "OrderMoneyModel") ∈ lw_g := List.mem_filter.mpr ⟨List.mem_append_right _ (List.mem_append_left _ (List.mem_of_getElem? (i := 4) rfl)), rfl⟩
theorem wd_5 : (Jvm.Cond.initialized "OrderMoney$Order") ∈ lw_g := List.mem_filter.mpr ⟨List.mem_append_right _ (List.mem_append_left _ (List.mem_of_getElem? (i := 5) rfl)), rfl⟩
theorem wd_6 : (Jvm.Cond.initialized "OrderMoney$Try") ∈ lw_g := List.mem_filter.mpr ⟨List.mem_append_right _ (List.mem_append_left _ (List.mem_of_getElem? (i := 6) rfl)), rfl⟩
theorem wd_7 : (Jvm.Cond.initialized "java/lang/Math") ∈ lw_g := List.mem_filter.mpr ⟨List.mem_append_right _ (List.mem_append_left _ (List.mem_of_getElem? (i := 7) rfl)), rfl⟩
theorem wd_8 : (Jvm.Cond.initialized "OrderMoney$Collected") ∈ lw_g := List.mem_filter.mpr ⟨List.mem_append_right _ (List.mem_append_left _ (List.mem_of_getElem? (i := 8) rfl)), rfl⟩
theorem wd_13 : (Jvm.Cond.code ({ cls := "OrderMoney", name := "<init>", desc := "()V" } : Jvm.MethodName) prog_1_method_1_code (2 : Nat) (Option.none : Option Jvm.ClassFile.FieldType)) ∈ lw_g := List.mem_filter.mpr ⟨List.mem_append_right _ (List.mem_append_left _ (List.mem_of_getElem? (i := 13) rfl)), rfl⟩
theorem wd_14 : (Jvm.Cond.methodLink "OrderMoney" (1 : Nat) ({ cls := "java/lang/Object", name := "<init>", desc := "()V" } : Jvm.MethodName)) ∈ lw_g := List.mem_filter.mpr ⟨List.mem_append_right _ (List.mem_append_left _ (List.mem_of_getElem? (i := 14) rfl)), rfl⟩
theorem wd_15 : (Jvm.Cond.instanceMethod ({ cls := "java/lang/Object", name := "<init>", desc := "()V" } : Jvm.MethodName)) ∈ lw_g := List.mem_filter.mpr ⟨List.mem_append_right _ (List.mem_append_left _ (List.mem_of_getElem? (i := 15) rfl)), rfl⟩
theorem wd_16 : (Jvm.Cond.code ({ cls := "java/lang/Object", name := "<init>", desc := "()V" } : Jvm.MethodName) object_method_1_code (1 : Nat) (Option.none : Option Jvm.ClassFile.FieldType)) ∈ lw_g := List.mem_filter.mpr ⟨List.mem_append_right _ (List.mem_append_left _ (List.mem_of_getElem? (i := 16) rfl)), rfl⟩
theorem wd_17 : (Jvm.Cond.classLink "OrderMoney" (9 : Nat) "OrderMoney$Office") ∈ lw_g := List.mem_filter.mpr ⟨List.mem_append_right _ (List.mem_append_left _ (List.mem_of_getElem? (i := 17) rfl)), rfl⟩
theorem wd_18 : (Jvm.Cond.arrayOver (Jvm.ClassFile.FieldType.object "OrderMoney$Office")) ∈ lw_tbl := List.mem_append_right _ (List.mem_append_left _ (List.mem_of_getElem? (i := 18) rfl))
theorem wd_19 : (Jvm.Cond.classLink "OrderMoney" (15 : Nat) "OrderMoney$Currency") ∈ lw_g := List.mem_filter.mpr ⟨List.mem_append_right _ (List.mem_append_left _ (List.mem_of_getElem? (i := 19) rfl)), rfl⟩
theorem wd_20 : (Jvm.Cond.arrayOver (Jvm.ClassFile.FieldType.object "OrderMoney$Currency")) ∈ lw_tbl := List.mem_append_right _ (List.mem_append_left _ (List.mem_of_getElem? (i := 20) rfl))
theorem wd_21 : (Jvm.Cond.classLink "OrderMoney" (21 : Nat) "OrderMoney$Order") ∈ lw_g := List.mem_filter.mpr ⟨List.mem_append_right _ (List.mem_append_left _ (List.mem_of_getElem? (i := 21) rfl)), rfl⟩
theorem wd_22 : (Jvm.Cond.arrayOver (Jvm.ClassFile.FieldType.object "OrderMoney$Order")) ∈ lw_tbl := List.mem_append_right _ (List.mem_append_left _ (List.mem_of_getElem? (i := 22) rfl))
theorem wd_23 : (Jvm.Cond.classLink "OrderMoney" (27 : Nat) "OrderMoney$Try") ∈ lw_g := List.mem_filter.mpr ⟨List.mem_append_right _ (List.mem_append_left _ (List.mem_of_getElem? (i := 23) rfl)), rfl⟩
theorem wd_24 : (Jvm.Cond.arrayOver (Jvm.ClassFile.FieldType.object "OrderMoney$Try")) ∈ lw_tbl := List.mem_append_right _ (List.mem_append_left _ (List.mem_of_getElem? (i := 24) rfl))
theorem wd_25 : (Jvm.Cond.classLink "OrderMoney" (33 : Nat) "OrderMoney$Collected") ∈ lw_g := List.mem_filter.mpr ⟨List.mem_append_right _ (List.mem_append_left _ (List.mem_of_getElem? (i := 25) rfl)), rfl⟩
theorem wd_26 : (Jvm.Cond.arrayOver (Jvm.ClassFile.FieldType.object "OrderMoney$Collected")) ∈ lw_tbl := List.mem_append_right _ (List.mem_append_left _ (List.mem_of_getElem? (i := 26) rfl))
theorem wd_27 : (Jvm.Cond.instantiable "OrderMoney$Office" (9 : Nat)) ∈ lw_g := List.mem_filter.mpr ⟨List.mem_append_right _ (List.mem_append_left _ (List.mem_of_getElem? (i := 27) rfl)), rfl⟩
theorem wd_28 : (Jvm.Cond.methodLink "OrderMoney" (43 : Nat) ({ cls := "OrderMoney$Office", name := "<init>", desc := "(I)V" } : Jvm.MethodName)) ∈ lw_g := List.mem_filter.mpr ⟨List.mem_append_right _ (List.mem_append_left _ (List.mem_of_getElem? (i := 28) rfl)), rfl⟩
theorem wd_29 : (Jvm.Cond.instanceMethod ({ cls := "OrderMoney$Office", name := "<init>", desc := "(I)V" } : Jvm.MethodName)) ∈ lw_g := List.mem_filter.mpr ⟨List.mem_append_right _ (List.mem_append_left _ (List.mem_of_getElem? (i := 29) rfl)), rfl⟩
theorem wd_30 : (Jvm.Cond.code ({ cls := "OrderMoney$Office", name := "<init>", desc := "(I)V" } : Jvm.MethodName) prog_4_method_1_code (2 : Nat) (Option.none : Option Jvm.ClassFile.FieldType)) ∈ lw_g := List.mem_filter.mpr ⟨List.mem_append_right _ (List.mem_append_left _ (List.mem_of_getElem? (i := 30) rfl)), rfl⟩
theorem wd_31 : (Jvm.Cond.methodLink "OrderMoney$Office" (3 : Nat) ({ cls := "java/lang/Object", name := "<init>", desc := "()V" } : Jvm.MethodName)) ∈ lw_g := List.mem_filter.mpr ⟨List.mem_append_right _ (List.mem_append_left _ (List.mem_of_getElem? (i := 31) rfl)), rfl⟩
theorem wd_32 : (Jvm.Cond.constantLong "OrderMoney$Office" (9 : Nat) (-1 : Int64)) ∈ lw_g := List.mem_filter.mpr ⟨List.mem_append_right _ (List.mem_append_left _ (List.mem_of_getElem? (i := 32) rfl)), rfl⟩
theorem wd_33 : (Jvm.Cond.fieldLink "OrderMoney$Office" (20 : Nat) "OrderMoney$Office" "place" "I") ∈ lw_g := List.mem_filter.mpr ⟨List.mem_append_right _ (List.mem_append_left _ (List.mem_of_getElem? (i := 33) rfl)), rfl⟩
theorem wd_34 : (Jvm.Cond.fieldLinkNest "OrderMoney" (194 : Nat) "OrderMoney$Office" "place" "I" "OrderMoney") ∈ lw_tbl := List.mem_append_right _ (List.mem_append_left _ (List.mem_of_getElem? (i := 34) rfl))
theorem wd_35 : (Jvm.Cond.fieldLinkNest "OrderMoney" (63 : Nat) "OrderMoney$Office" "cash" "J" "OrderMoney") ∈ lw_tbl := List.mem_append_right _ (List.mem_append_left _ (List.mem_of_getElem? (i := 35) rfl))
theorem wd_36 : (Jvm.Cond.fieldLink "OrderMoney$Office" (40 : Nat) "OrderMoney$Office" "cash" "J") ∈ lw_g := List.mem_filter.mpr ⟨List.mem_append_right _ (List.mem_append_left _ (List.mem_of_getElem? (i := 36) rfl)), rfl⟩
theorem wd_37 : (Jvm.Cond.fieldLink "OrderMoney$Office" (11 : Nat) "OrderMoney$Office" "limit" "J") ∈ lw_g := List.mem_filter.mpr ⟨List.mem_append_right _ (List.mem_append_left _ (List.mem_of_getElem? (i := 37) rfl)), rfl⟩
theorem wd_38 : (Jvm.Cond.fieldLinkNest "OrderMoney" (261 : Nat) "OrderMoney$Office" "limit" "J" "OrderMoney") ∈ lw_tbl := List.mem_append_right _ (List.mem_append_left _ (List.mem_of_getElem? (i := 38) rfl))
theorem wd_39 : (Jvm.Cond.fieldLink "OrderMoney$Office" (30 : Nat) "OrderMoney$Office" "isCut" "Z") ∈ lw_g := List.mem_filter.mpr ⟨List.mem_append_right _ (List.mem_append_left _ (List.mem_of_getElem? (i := 39) rfl)), rfl⟩
theorem wd_40 : (Jvm.Cond.fieldLinkNest "OrderMoney" (153 : Nat) "OrderMoney$Office" "isCut" "Z" "OrderMoney") ∈ lw_tbl := List.mem_append_right _ (List.mem_append_left _ (List.mem_of_getElem? (i := 40) rfl))
theorem wd_41 : (Jvm.Cond.fieldLinkNest "OrderMoney$Order" (54 : Nat) "OrderMoney$Office" "listed" "I" "OrderMoney") ∈ lw_tbl := List.mem_append_right _ (List.mem_append_left _ (List.mem_of_getElem? (i := 41) rfl))
theorem wd_42 : (Jvm.Cond.fieldLinkNest "OrderMoney" (164 : Nat) "OrderMoney$Office" "listed" "I" "OrderMoney") ∈ lw_tbl := List.mem_append_right _ (List.mem_append_left _ (List.mem_of_getElem? (i := 42) rfl))
theorem wd_43 : (Jvm.Cond.fieldLink "OrderMoney$Office" (34 : Nat) "OrderMoney$Office" "stepsToFail" "I") ∈ lw_g := List.mem_filter.mpr ⟨List.mem_append_right _ (List.mem_append_left _ (List.mem_of_getElem? (i := 43) rfl)), rfl⟩
theorem wd_44 : (Jvm.Cond.fieldLink "OrderMoney$Office" (17 : Nat) "OrderMoney$Office" "knownDay" "J") ∈ lw_g := List.mem_filter.mpr ⟨List.mem_append_right _ (List.mem_append_left _ (List.mem_of_getElem? (i := 44) rfl)), rfl⟩
theorem wd_45 : (Jvm.Cond.fieldLink "OrderMoney$Office" (37 : Nat) "OrderMoney$Office" "paidOnDay" "J") ∈ lw_g := List.mem_filter.mpr ⟨List.mem_append_right _ (List.mem_append_left _ (List.mem_of_getElem? (i := 45) rfl)), rfl⟩
theorem wd_46 : (Jvm.Cond.fieldLink "OrderMoney$Office" (43 : Nat) "OrderMoney$Office" "latestPaid" "LOrderMoney$Order;") ∈ lw_g := List.mem_filter.mpr ⟨List.mem_append_right _ (List.mem_append_left _ (List.mem_of_getElem? (i := 46) rfl)), rfl⟩
theorem wd_66 : (Jvm.Cond.arrayClass Jvm.ClassFile.FieldType.long) ∈ lw_g := List.mem_filter.mpr ⟨List.mem_append_right _ (List.mem_append_left _ (List.mem_of_getElem? (i := 66) rfl)), rfl⟩
theorem wd_67 : (Jvm.Cond.instantiable "OrderMoney$Currency" (1 : Nat)) ∈ lw_g := List.mem_filter.mpr ⟨List.mem_append_right _ (List.mem_append_left _ (List.mem_of_getElem? (i := 67) rfl)), rfl⟩
theorem wd_68 : (Jvm.Cond.methodLinkNest "OrderMoney" (46 : Nat) ({ cls := "OrderMoney$Currency", name := "<init>", desc := "()V" } : Jvm.MethodName) "OrderMoney") ∈ lw_tbl := List.mem_append_right _ (List.mem_append_left _ (List.mem_of_getElem? (i := 68) rfl))
theorem wd_69 : (Jvm.Cond.instanceMethod ({ cls := "OrderMoney$Currency", name := "<init>", desc := "()V" } : Jvm.MethodName)) ∈ lw_g := List.mem_filter.mpr ⟨List.mem_append_right _ (List.mem_append_left _ (List.mem_of_getElem? (i := 69) rfl)), rfl⟩
theorem wd_70 : (Jvm.Cond.code ({ cls := "OrderMoney$Currency", name := "<init>", desc := "()V" } : Jvm.MethodName) prog_3_method_1_code (1 : Nat) (Option.none : Option Jvm.ClassFile.FieldType)) ∈ lw_g := List.mem_filter.mpr ⟨List.mem_append_right _ (List.mem_append_left _ (List.mem_of_getElem? (i := 70) rfl)), rfl⟩
theorem wd_71 : (Jvm.Cond.methodLink "OrderMoney$Currency" (3 : Nat) ({ cls := "java/lang/Object", name := "<init>", desc := "()V" } : Jvm.MethodName)) ∈ lw_g := List.mem_filter.mpr ⟨List.mem_append_right _ (List.mem_append_left _ (List.mem_of_getElem? (i := 71) rfl)), rfl⟩
theorem wd_72 : (Jvm.Cond.constantLong "OrderMoney$Currency" (9 : Nat) (1000 : Int64)) ∈ lw_g := List.mem_filter.mpr ⟨List.mem_append_right _ (List.mem_append_left _ (List.mem_of_getElem? (i := 72) rfl)), rfl⟩
theorem wd_73 : (Jvm.Cond.fieldLink "OrderMoney$Currency" (11 : Nat) "OrderMoney$Currency" "rate" "J") ∈ lw_g := List.mem_filter.mpr ⟨List.mem_append_right _ (List.mem_append_left _ (List.mem_of_getElem? (i := 73) rfl)), rfl⟩
theorem wd_74 : (Jvm.Cond.fieldLinkNest "OrderMoney$Order" (41 : Nat) "OrderMoney$Currency" "rate" "J" "OrderMoney") ∈ lw_tbl := List.mem_append_right _ (List.mem_append_left _ (List.mem_of_getElem? (i := 74) rfl))
theorem wd_75 : (Jvm.Cond.fieldLinkNest "OrderMoney" (266 : Nat) "OrderMoney$Currency" "rate" "J" "OrderMoney") ∈ lw_tbl := List.mem_append_right _ (List.mem_append_left _ (List.mem_of_getElem? (i := 75) rfl))
theorem wd_79 : (Jvm.Cond.fieldLink "OrderMoney" (11 : Nat) "OrderMoney" "offices" "[LOrderMoney$Office;") ∈ lw_g := List.mem_filter.mpr ⟨List.mem_append_right _ (List.mem_append_left _ (List.mem_of_getElem? (i := 79) rfl)), rfl⟩
theorem wd_80 : (Jvm.Cond.fieldLink "OrderMoney" (17 : Nat) "OrderMoney" "currencies" "[LOrderMoney$Currency;") ∈ lw_g := List.mem_filter.mpr ⟨List.mem_append_right _ (List.mem_append_left _ (List.mem_of_getElem? (i := 80) rfl)), rfl⟩
theorem wd_81 : (Jvm.Cond.fieldLink "OrderMoney" (23 : Nat) "OrderMoney" "orders" "[LOrderMoney$Order;") ∈ lw_g := List.mem_filter.mpr ⟨List.mem_append_right _ (List.mem_append_left _ (List.mem_of_getElem? (i := 81) rfl)), rfl⟩
theorem wd_82 : (Jvm.Cond.fieldLink "OrderMoney" (59 : Nat) "OrderMoney" "orderCount" "I") ∈ lw_g := List.mem_filter.mpr ⟨List.mem_append_right _ (List.mem_append_left _ (List.mem_of_getElem? (i := 82) rfl)), rfl⟩
theorem wd_83 : (Jvm.Cond.fieldLink "OrderMoney" (29 : Nat) "OrderMoney" "tries" "[LOrderMoney$Try;") ∈ lw_g := List.mem_filter.mpr ⟨List.mem_append_right _ (List.mem_append_left _ (List.mem_of_getElem? (i := 83) rfl)), rfl⟩
theorem wd_84 : (Jvm.Cond.fieldLink "OrderMoney" (95 : Nat) "OrderMoney" "asked" "I") ∈ lw_g := List.mem_filter.mpr ⟨List.mem_append_right _ (List.mem_append_left _ (List.mem_of_getElem? (i := 84) rfl)), rfl⟩
theorem wd_85 : (Jvm.Cond.fieldLink "OrderMoney" (98 : Nat) "OrderMoney" "served" "I") ∈ lw_g := List.mem_filter.mpr ⟨List.mem_append_right _ (List.mem_append_left _ (List.mem_of_getElem? (i := 85) rfl)), rfl⟩
theorem wd_86 : (Jvm.Cond.fieldLink "OrderMoney" (35 : Nat) "OrderMoney" "collected" "[LOrderMoney$Collected;") ∈ lw_g := List.mem_filter.mpr ⟨List.mem_append_right _ (List.mem_append_left _ (List.mem_of_getElem? (i := 86) rfl)), rfl⟩
theorem wd_87 : (Jvm.Cond.fieldLink "OrderMoney" (181 : Nat) "OrderMoney" "collectedCount" "I") ∈ lw_g := List.mem_filter.mpr ⟨List.mem_append_right _ (List.mem_append_left _ (List.mem_of_getElem? (i := 87) rfl)), rfl⟩
theorem wd_88 : (Jvm.Cond.fieldLink "OrderMoney" (39 : Nat) "OrderMoney" "totals" "[J") ∈ lw_g := List.mem_filter.mpr ⟨List.mem_append_right _ (List.mem_append_left _ (List.mem_of_getElem? (i := 88) rfl)), rfl⟩
theorem wd_113 : (Jvm.Cond.code ({ cls := "OrderMoney", name := "order", desc := "(IJJII)I" } : Jvm.MethodName) prog_1_method_2_code (10 : Nat) (Option.some Jvm.ClassFile.FieldType.int)) ∈ lw_g := List.mem_filter.mpr ⟨List.mem_append_right _ (List.mem_append_left _ (List.mem_of_getElem? (i := 113) rfl)), rfl⟩
theorem wd_114 : (Jvm.Cond.methodLink "OrderMoney" (47 : Nat) ({ cls := "OrderMoney", name := "officeAt", desc := "(I)LOrderMoney$Office;" } : Jvm.MethodName)) ∈ lw_g := List.mem_filter.mpr ⟨List.mem_append_right _ (List.mem_append_left _ (List.mem_of_getElem? (i := 114) rfl)), rfl⟩
theorem wd_116 : (Jvm.Cond.instanceMethod ({ cls := "OrderMoney", name := "officeAt", desc := "(I)LOrderMoney$Office;" } : Jvm.MethodName)) ∈ lw_g := List.mem_filter.mpr ⟨List.mem_append_right _ (List.mem_append_left _ (List.mem_of_getElem? (i := 116) rfl)), rfl⟩
theorem wd_117 : (Jvm.Cond.code ({ cls := "OrderMoney", name := "officeAt", desc := "(I)LOrderMoney$Office;" } : Jvm.MethodName) prog_1_method_20_code (2 : Nat) (Option.some (Jvm.ClassFile.FieldType.object "OrderMoney$Office"))) ∈ lw_g := List.mem_filter.mpr ⟨List.mem_append_right _ (List.mem_append_left _ (List.mem_of_getElem? (i := 117) rfl)), rfl⟩
theorem wd_118 : (Jvm.Cond.methodLink "OrderMoney" (51 : Nat) ({ cls := "OrderMoney", name := "currencyAt", desc := "(I)LOrderMoney$Currency;" } : Jvm.MethodName)) ∈ lw_g := List.mem_filter.mpr ⟨List.mem_append_right _ (List.mem_append_left _ (List.mem_of_getElem? (i := 118) rfl)), rfl⟩
theorem wd_120 : (Jvm.Cond.instanceMethod ({ cls := "OrderMoney", name := "currencyAt", desc := "(I)LOrderMoney$Currency;" } : Jvm.MethodName)) ∈ lw_g := List.mem_filter.mpr ⟨List.mem_append_right _ (List.mem_append_left _ (List.mem_of_getElem? (i := 120) rfl)), rfl⟩
theorem wd_121 : (Jvm.Cond.code ({ cls := "OrderMoney", name := "currencyAt", desc := "(I)LOrderMoney$Currency;" } : Jvm.MethodName) prog_1_method_21_code (2 : Nat) (Option.some (Jvm.ClassFile.FieldType.object "OrderMoney$Currency"))) ∈ lw_g := List.mem_filter.mpr ⟨List.mem_append_right _ (List.mem_append_left _ (List.mem_of_getElem? (i := 121) rfl)), rfl⟩
theorem wd_122 : (Jvm.Cond.methodLink "OrderMoney" (55 : Nat) ({ cls := "OrderMoney", name := "isOrderable", desc := "(J)Z" } : Jvm.MethodName)) ∈ lw_g := List.mem_filter.mpr ⟨List.mem_append_right _ (List.mem_append_left _ (List.mem_of_getElem? (i := 122) rfl)), rfl⟩
theorem wd_123 : (Jvm.Cond.static ({ cls := "OrderMoney", name := "isOrderable", desc := "(J)Z" } : Jvm.MethodName)) ∈ lw_g := List.mem_filter.mpr ⟨List.mem_append_right _ (List.mem_append_left _ (List.mem_of_getElem? (i := 123) rfl)), rfl⟩
theorem wd_124 : (Jvm.Cond.code ({ cls := "OrderMoney", name := "isOrderable", desc := "(J)Z" } : Jvm.MethodName) prog_1_method_23_code (2 : Nat) (Option.some Jvm.ClassFile.FieldType.boolean)) ∈ lw_g := List.mem_filter.mpr ⟨List.mem_append_right _ (List.mem_append_left _ (List.mem_of_getElem? (i := 124) rfl)), rfl⟩
theorem wd_125 : (Jvm.Cond.constantLong "OrderMoney" (212 : Nat) (500000 : Int64)) ∈ lw_g := List.mem_filter.mpr ⟨List.mem_append_right _ (List.mem_append_left _ (List.mem_of_getElem? (i := 125) rfl)), rfl⟩
theorem wd_126 : (Jvm.Cond.methodLink "OrderMoney" (67 : Nat) ({ cls := "OrderMoney", name := "addOrder", desc := "(LOrderMoney$Office;JJLOrderMoney$Currency;I)I" } : Jvm.MethodName)) ∈ lw_g := List.mem_filter.mpr ⟨List.mem_append_right _ (List.mem_append_left _ (List.mem_of_getElem? (i := 126) rfl)), rfl⟩
theorem wd_128 : (Jvm.Cond.instanceMethod ({ cls := "OrderMoney", name := "addOrder", desc := "(LOrderMoney$Office;JJLOrderMoney$Currency;I)I" } : Jvm.MethodName)) ∈ lw_g := List.mem_filter.mpr ⟨List.mem_append_right _ (List.mem_append_left _ (List.mem_of_getElem? (i := 128) rfl)), rfl⟩
theorem wd_129 : (Jvm.Cond.code ({ cls := "OrderMoney", name := "addOrder", desc := "(LOrderMoney$Office;JJLOrderMoney$Currency;I)I" } : Jvm.MethodName) prog_1_method_26_code (9 : Nat) (Option.some Jvm.ClassFile.FieldType.int)) ∈ lw_g := List.mem_filter.mpr ⟨List.mem_append_right _ (List.mem_append_left _ (List.mem_of_getElem? (i := 129) rfl)), rfl⟩
theorem wd_130 : (Jvm.Cond.methodLink "OrderMoney" (218 : Nat) ({ cls := "OrderMoney", name := "numberOf", desc := "(I)I" } : Jvm.MethodName)) ∈ lw_g := List.mem_filter.mpr ⟨List.mem_append_right _ (List.mem_append_left _ (List.mem_of_getElem? (i := 130) rfl)), rfl⟩
theorem wd_131 : (Jvm.Cond.static ({ cls := "OrderMoney", name := "numberOf", desc := "(I)I" } : Jvm.MethodName)) ∈ lw_g := List.mem_filter.mpr ⟨List.mem_append_right _ (List.mem_append_left _ (List.mem_of_getElem? (i := 131) rfl)), rfl⟩
theorem wd_132 : (Jvm.Cond.code ({ cls := "OrderMoney", name := "numberOf", desc := "(I)I" } : Jvm.MethodName) prog_1_method_27_code (4 : Nat) (Option.some Jvm.ClassFile.FieldType.int)) ∈ lw_g := List.mem_filter.mpr ⟨List.mem_append_right _ (List.mem_append_left _ (List.mem_of_getElem? (i := 132) rfl)), rfl⟩
theorem wd_133 : (Jvm.Cond.instantiable "OrderMoney$Order" (11 : Nat)) ∈ lw_g := List.mem_filter.mpr ⟨List.mem_append_right _ (List.mem_append_left _ (List.mem_of_getElem? (i := 133) rfl)), rfl⟩
theorem wd_134 : (Jvm.Cond.methodLink "OrderMoney" (222 : Nat) ({ cls := "OrderMoney$Order", name := "<init>", desc := "(ILOrderMoney$Office;JJLOrderMoney$Currency;I)V" } : Jvm.MethodName)) ∈ lw_g := List.mem_filter.mpr ⟨List.mem_append_right _ (List.mem_append_left _ (List.mem_of_getElem? (i := 134) rfl)), rfl⟩
theorem wd_135 : (Jvm.Cond.instanceMethod ({ cls := "OrderMoney$Order", name := "<init>", desc := "(ILOrderMoney$Office;JJLOrderMoney$Currency;I)V" } : Jvm.MethodName)) ∈ lw_g := List.mem_filter.mpr ⟨List.mem_append_right _ (List.mem_append_left _ (List.mem_of_getElem? (i := 135) rfl)), rfl⟩
theorem wd_136 : (Jvm.Cond.code ({ cls := "OrderMoney$Order", name := "<init>", desc := "(ILOrderMoney$Office;JJLOrderMoney$Currency;I)V" } : Jvm.MethodName) prog_5_method_1_code (9 : Nat) (Option.none : Option Jvm.ClassFile.FieldType)) ∈ lw_g := List.mem_filter.mpr ⟨List.mem_append_right _ (List.mem_append_left _ (List.mem_of_getElem? (i := 136) rfl)), rfl⟩
theorem wd_137 : (Jvm.Cond.methodLink "OrderMoney$Order" (3 : Nat) ({ cls := "java/lang/Object", name := "<init>", desc := "()V" } : Jvm.MethodName)) ∈ lw_g := List.mem_filter.mpr ⟨List.mem_append_right _ (List.mem_append_left _ (List.mem_of_getElem? (i := 137) rfl)), rfl⟩
theorem wd_138 : (Jvm.Cond.constantLong "OrderMoney$Order" (15 : Nat) (-1 : Int64)) ∈ lw_g := List.mem_filter.mpr ⟨List.mem_append_right _ (List.mem_append_left _ (List.mem_of_getElem? (i := 138) rfl)), rfl⟩
theorem wd_139 : (Jvm.Cond.fieldLink "OrderMoney$Order" (21 : Nat) "OrderMoney$Order" "number" "I") ∈ lw_g := List.mem_filter.mpr ⟨List.mem_append_right _ (List.mem_append_left _ (List.mem_of_getElem? (i := 139) rfl)), rfl⟩
theorem wd_140 : (Jvm.Cond.fieldLinkNest "OrderMoney" (216 : Nat) "OrderMoney$Order" "number" "I" "OrderMoney") ∈ lw_tbl := List.mem_append_right _ (List.mem_append_left _ (List.mem_of_getElem? (i := 140) rfl))
theorem wd_141 : (Jvm.Cond.fieldLink "OrderMoney$Order" (24 : Nat) "OrderMoney$Order" "home" "LOrderMoney$Office;") ∈ lw_g := List.mem_filter.mpr ⟨List.mem_append_right _ (List.mem_append_left _ (List.mem_of_getElem? (i := 141) rfl)), rfl⟩
theorem wd_142 : (Jvm.Cond.fieldLinkNest "OrderMoney" (141 : Nat) "OrderMoney$Order" "home" "LOrderMoney$Office;" "OrderMoney") ∈ lw_tbl := List.mem_append_right _ (List.mem_append_left _ (List.mem_of_getElem? (i := 142) rfl))
theorem wd_143 : (Jvm.Cond.fieldLink "OrderMoney$Order" (28 : Nat) "OrderMoney$Order" "cents" "J") ∈ lw_g := List.mem_filter.mpr ⟨List.mem_append_right _ (List.mem_append_left _ (List.mem_of_getElem? (i := 143) rfl)), rfl⟩
theorem wd_144 : (Jvm.Cond.fieldLinkNest "OrderMoney" (145 : Nat) "OrderMoney$Order" "cents" "J" "OrderMoney") ∈ lw_tbl := List.mem_append_right _ (List.mem_append_left _ (List.mem_of_getElem? (i := 144) rfl))
theorem wd_145 : (Jvm.Cond.fieldLink "OrderMoney$Order" (31 : Nat) "OrderMoney$Order" "until" "J") ∈ lw_g := List.mem_filter.mpr ⟨List.mem_append_right _ (List.mem_append_left _ (List.mem_of_getElem? (i := 145) rfl)), rfl⟩
theorem wd_146 : (Jvm.Cond.fieldLinkNest "OrderMoney" (78 : Nat) "OrderMoney$Order" "until" "J" "OrderMoney") ∈ lw_tbl := List.mem_append_right _ (List.mem_append_left _ (List.mem_of_getElem? (i := 146) rfl))
theorem wd_147 : (Jvm.Cond.fieldLink "OrderMoney$Order" (34 : Nat) "OrderMoney$Order" "currency" "LOrderMoney$Currency;") ∈ lw_g := List.mem_filter.mpr ⟨List.mem_append_right _ (List.mem_append_left _ (List.mem_of_getElem? (i := 147) rfl)), rfl⟩
theorem wd_148 : (Jvm.Cond.fieldLinkNest "OrderMoney" (148 : Nat) "OrderMoney$Order" "currency" "LOrderMoney$Currency;" "OrderMoney") ∈ lw_tbl := List.mem_append_right _ (List.mem_append_left _ (List.mem_of_getElem? (i := 148) rfl))
theorem wd_149 : (Jvm.Cond.fieldLink "OrderMoney$Order" (38 : Nat) "OrderMoney$Order" "proof" "I") ∈ lw_g := List.mem_filter.mpr ⟨List.mem_append_right _ (List.mem_append_left _ (List.mem_of_getElem? (i := 149) rfl)), rfl⟩
theorem wd_150 : (Jvm.Cond.fieldLinkNest "OrderMoney$Office" (54 : Nat) "OrderMoney$Order" "proof" "I" "OrderMoney") ∈ lw_tbl := List.mem_append_right _ (List.mem_append_left _ (List.mem_of_getElem? (i := 150) rfl))
theorem wd_151 : (Jvm.Cond.fieldLinkNest "OrderMoney" (152 : Nat) "OrderMoney$Order" "proof" "I" "OrderMoney") ∈ lw_tbl := List.mem_append_right _ (List.mem_append_left _ (List.mem_of_getElem? (i := 151) rfl))
theorem wd_152 : (Jvm.Cond.fieldLink "OrderMoney$Order" (9 : Nat) "OrderMoney$Order" "state" "I") ∈ lw_g := List.mem_filter.mpr ⟨List.mem_append_right _ (List.mem_append_left _ (List.mem_of_getElem? (i := 152) rfl)), rfl⟩
theorem wd_153 : (Jvm.Cond.fieldLinkNest "OrderMoney" (75 : Nat) "OrderMoney$Order" "state" "I" "OrderMoney") ∈ lw_tbl := List.mem_append_right _ (List.mem_append_left _ (List.mem_of_getElem? (i := 153) rfl))
theorem wd_154 : (Jvm.Cond.fieldLink "OrderMoney$Order" (17 : Nat) "OrderMoney$Order" "barredSince" "J") ∈ lw_g := List.mem_filter.mpr ⟨List.mem_append_right _ (List.mem_append_left _ (List.mem_of_getElem? (i := 154) rfl)), rfl⟩
theorem wd_155 : (Jvm.Cond.fieldLinkNest "OrderMoney" (129 : Nat) "OrderMoney$Order" "barredSince" "J" "OrderMoney") ∈ lw_tbl := List.mem_append_right _ (List.mem_append_left _ (List.mem_of_getElem? (i := 155) rfl))
theorem wd_156 : (Jvm.Cond.fieldLinkNest "OrderMoney$Office" (24 : Nat) "OrderMoney$Order" "lister" "LOrderMoney$Office;" "OrderMoney") ∈ lw_tbl := List.mem_append_right _ (List.mem_append_left _ (List.mem_of_getElem? (i := 156) rfl))
theorem wd_157 : (Jvm.Cond.fieldLink "OrderMoney$Order" (51 : Nat) "OrderMoney$Order" "lister" "LOrderMoney$Office;") ∈ lw_g := List.mem_filter.mpr ⟨List.mem_append_right _ (List.mem_append_left _ (List.mem_of_getElem? (i := 157) rfl)), rfl⟩
theorem wd_158 : (Jvm.Cond.fieldLinkNest "OrderMoney" (161 : Nat) "OrderMoney$Order" "lister" "LOrderMoney$Office;" "OrderMoney") ∈ lw_tbl := List.mem_append_right _ (List.mem_append_left _ (List.mem_of_getElem? (i := 158) rfl))
theorem wd_159 : (Jvm.Cond.fieldLinkNest "OrderMoney" (197 : Nat) "OrderMoney$Order" "payer" "LOrderMoney$Office;" "OrderMoney") ∈ lw_tbl := List.mem_append_right _ (List.mem_append_left _ (List.mem_of_getElem? (i := 159) rfl))
theorem wd_160 : (Jvm.Cond.fieldLinkNest "OrderMoney$Office" (51 : Nat) "OrderMoney$Order" "paidBefore" "LOrderMoney$Order;" "OrderMoney") ∈ lw_tbl := List.mem_append_right _ (List.mem_append_left _ (List.mem_of_getElem? (i := 160) rfl))
theorem wd_185 : (Jvm.Cond.instanceMethod ({ cls := "OrderMoney", name := "pay", desc := "(IJIJ)I" } : Jvm.MethodName)) ∈ lw_g := List.mem_filter.mpr ⟨List.mem_append_right _ (List.mem_append_left _ (List.mem_of_getElem? (i := 185) rfl)), rfl⟩
theorem wd_186 : (Jvm.Cond.selects "OrderMoney" ({ cls := "OrderMoney", name := "pay", desc := "(IJIJ)I" } : Jvm.MethodName) ({ cls := "OrderMoney", name := "pay", desc := "(IJIJ)I" } : Jvm.MethodName)) ∈ lw_g := List.mem_filter.mpr ⟨List.mem_append_right _ (List.mem_append_left _ (List.mem_of_getElem? (i := 186) rfl)), rfl⟩
theorem wd_187 : (Jvm.Cond.code ({ cls := "OrderMoney", name := "pay", desc := "(IJIJ)I" } : Jvm.MethodName) prog_1_method_3_code (9 : Nat) (Option.some Jvm.ClassFile.FieldType.int)) ∈ lw_g := List.mem_filter.mpr ⟨List.mem_append_right _ (List.mem_append_left _ (List.mem_of_getElem? (i := 187) rfl)), rfl⟩
theorem wd_188 : (Jvm.Cond.methodLink "OrderMoney" (71 : Nat) ({ cls := "OrderMoney", name := "find", desc := "(J)LOrderMoney$Order;" } : Jvm.MethodName)) ∈ lw_g := List.mem_filter.mpr ⟨List.mem_append_right _ (List.mem_append_left _ (List.mem_of_getElem? (i := 188) rfl)), rfl⟩
theorem wd_190 : (Jvm.Cond.instanceMethod ({ cls := "OrderMoney", name := "find", desc := "(J)LOrderMoney$Order;" } : Jvm.MethodName)) ∈ lw_g := List.mem_filter.mpr ⟨List.mem_append_right _ (List.mem_append_left _ (List.mem_of_getElem? (i := 190) rfl)), rfl⟩
theorem wd_191 : (Jvm.Cond.code ({ cls := "OrderMoney", name := "find", desc := "(J)LOrderMoney$Order;" } : Jvm.MethodName) prog_1_method_25_code (6 : Nat) (Option.some (Jvm.ClassFile.FieldType.object "OrderMoney$Order"))) ∈ lw_g := List.mem_filter.mpr ⟨List.mem_append_right _ (List.mem_append_left _ (List.mem_of_getElem? (i := 191) rfl)), rfl⟩
theorem wd_192 : (Jvm.Cond.constantLong "OrderMoney" (214 : Nat) (10 : Int64)) ∈ lw_g := List.mem_filter.mpr ⟨List.mem_append_right _ (List.mem_append_left _ (List.mem_of_getElem? (i := 192) rfl)), rfl⟩
theorem wd_193 : (Jvm.Cond.methodLink "OrderMoney" (81 : Nat) ({ cls := "OrderMoney$Office", name := "mayTouch", desc := "(LOrderMoney$Order;)Z" } : Jvm.MethodName)) ∈ lw_g := List.mem_filter.mpr ⟨List.mem_append_right _ (List.mem_append_left _ (List.mem_of_getElem? (i := 193) rfl)), rfl⟩
theorem wd_194 : (Jvm.Cond.instanceMethod ({ cls := "OrderMoney$Office", name := "mayTouch", desc := "(LOrderMoney$Order;)Z" } : Jvm.MethodName)) ∈ lw_g := List.mem_filter.mpr ⟨List.mem_append_right _ (List.mem_append_left _ (List.mem_of_getElem? (i := 194) rfl)), rfl⟩
theorem wd_195 : (Jvm.Cond.selects "OrderMoney$Office" ({ cls := "OrderMoney$Office", name := "mayTouch", desc := "(LOrderMoney$Order;)Z" } : Jvm.MethodName) ({ cls := "OrderMoney$Office", name := "mayTouch", desc := "(LOrderMoney$Order;)Z" } : Jvm.MethodName)) ∈ lw_g := List.mem_filter.mpr ⟨List.mem_append_right _ (List.mem_append_left _ (List.mem_of_getElem? (i := 195) rfl)), rfl⟩
theorem wd_196 : (Jvm.Cond.code ({ cls := "OrderMoney$Office", name := "mayTouch", desc := "(LOrderMoney$Order;)Z" } : Jvm.MethodName) prog_4_method_2_code (2 : Nat) (Option.some Jvm.ClassFile.FieldType.boolean)) ∈ lw_g := List.mem_filter.mpr ⟨List.mem_append_right _ (List.mem_append_left _ (List.mem_of_getElem? (i := 196) rfl)), rfl⟩
theorem wd_197 : (Jvm.Cond.constantLong "OrderMoney" (85 : Nat) (86400 : Int64)) ∈ lw_g := List.mem_filter.mpr ⟨List.mem_append_right _ (List.mem_append_left _ (List.mem_of_getElem? (i := 197) rfl)), rfl⟩
theorem wd_198 : (Jvm.Cond.methodLink "OrderMoney" (87 : Nat) ({ cls := "OrderMoney", name := "goThroughSteps", desc := "(LOrderMoney$Office;LOrderMoney$Order;IJ)I" } : Jvm.MethodName)) ∈ lw_g := List.mem_filter.mpr ⟨List.mem_append_right _ (List.mem_append_left _ (List.mem_of_getElem? (i := 198) rfl)), rfl⟩
theorem wd_200 : (Jvm.Cond.instanceMethod ({ cls := "OrderMoney", name := "goThroughSteps", desc := "(LOrderMoney$Office;LOrderMoney$Order;IJ)I" } : Jvm.MethodName)) ∈ lw_g := List.mem_filter.mpr ⟨List.mem_append_right _ (List.mem_append_left _ (List.mem_of_getElem? (i := 200) rfl)), rfl⟩
theorem wd_201 : (Jvm.Cond.code ({ cls := "OrderMoney", name := "goThroughSteps", desc := "(LOrderMoney$Office;LOrderMoney$Order;IJ)I" } : Jvm.MethodName) prog_1_method_28_code (9 : Nat) (Option.some Jvm.ClassFile.FieldType.int)) ∈ lw_g := List.mem_filter.mpr ⟨List.mem_append_right _ (List.mem_append_left _ (List.mem_of_getElem? (i := 201) rfl)), rfl⟩
theorem wd_202 : (Jvm.Cond.methodLink "OrderMoney" (225 : Nat) ({ cls := "OrderMoney$Office", name := "takesFailing", desc := "(I)Z" } : Jvm.MethodName)) ∈ lw_g := List.mem_filter.mpr ⟨List.mem_append_right _ (List.mem_append_left _ (List.mem_of_getElem? (i := 202) rfl)), rfl⟩
theorem wd_203 : (Jvm.Cond.instanceMethod ({ cls := "OrderMoney$Office", name := "takesFailing", desc := "(I)Z" } : Jvm.MethodName)) ∈ lw_g := List.mem_filter.mpr ⟨List.mem_append_right _ (List.mem_append_left _ (List.mem_of_getElem? (i := 203) rfl)), rfl⟩
theorem wd_204 : (Jvm.Cond.selects "OrderMoney$Office" ({ cls := "OrderMoney$Office", name := "takesFailing", desc := "(I)Z" } : Jvm.MethodName) ({ cls := "OrderMoney$Office", name := "takesFailing", desc := "(I)Z" } : Jvm.MethodName)) ∈ lw_g := List.mem_filter.mpr ⟨List.mem_append_right _ (List.mem_append_left _ (List.mem_of_getElem? (i := 204) rfl)), rfl⟩
theorem wd_205 : (Jvm.Cond.code ({ cls := "OrderMoney$Office", name := "takesFailing", desc := "(I)Z" } : Jvm.MethodName) prog_4_method_4_code (4 : Nat) (Option.some Jvm.ClassFile.FieldType.boolean)) ∈ lw_g := List.mem_filter.mpr ⟨List.mem_append_right _ (List.mem_append_left _ (List.mem_of_getElem? (i := 205) rfl)), rfl⟩
theorem wd_206 : (Jvm.Cond.methodLink "OrderMoney" (228 : Nat) ({ cls := "OrderMoney", name := "takeStep", desc := "(ILOrderMoney$Office;LOrderMoney$Order;IJ)I" } : Jvm.MethodName)) ∈ lw_g := List.mem_filter.mpr ⟨List.mem_append_right _ (List.mem_append_left _ (List.mem_of_getElem? (i := 206) rfl)), rfl⟩
theorem wd_208 : (Jvm.Cond.instanceMethod ({ cls := "OrderMoney", name := "takeStep", desc := "(ILOrderMoney$Office;LOrderMoney$Order;IJ)I" } : Jvm.MethodName)) ∈ lw_g := List.mem_filter.mpr ⟨List.mem_append_right _ (List.mem_append_left _ (List.mem_of_getElem? (i := 208) rfl)), rfl⟩
theorem wd_209 : (Jvm.Cond.code ({ cls := "OrderMoney", name := "takeStep", desc := "(ILOrderMoney$Office;LOrderMoney$Order;IJ)I" } : Jvm.MethodName) prog_1_method_29_code (7 : Nat) (Option.some Jvm.ClassFile.FieldType.int)) ∈ lw_g := List.mem_filter.mpr ⟨List.mem_append_right _ (List.mem_append_left _ (List.mem_of_getElem? (i := 209) rfl)), rfl⟩
theorem wd_210 : (Jvm.Cond.methodLink "OrderMoney" (204 : Nat) ({ cls := "OrderMoney$Order", name := "sum", desc := "()J" } : Jvm.MethodName)) ∈ lw_g := List.mem_filter.mpr ⟨List.mem_append_right _ (List.mem_append_left _ (List.mem_of_getElem? (i := 210) rfl)), rfl⟩
theorem wd_211 : (Jvm.Cond.instanceMethod ({ cls := "OrderMoney$Order", name := "sum", desc := "()J" } : Jvm.MethodName)) ∈ lw_g := List.mem_filter.mpr ⟨List.mem_append_right _ (List.mem_append_left _ (List.mem_of_getElem? (i := 211) rfl)), rfl⟩
theorem wd_212 : (Jvm.Cond.selects "OrderMoney$Order" ({ cls := "OrderMoney$Order", name := "sum", desc := "()J" } : Jvm.MethodName) ({ cls := "OrderMoney$Order", name := "sum", desc := "()J" } : Jvm.MethodName)) ∈ lw_g := List.mem_filter.mpr ⟨List.mem_append_right _ (List.mem_append_left _ (List.mem_of_getElem? (i := 212) rfl)), rfl⟩
theorem wd_213 : (Jvm.Cond.code ({ cls := "OrderMoney$Order", name := "sum", desc := "()J" } : Jvm.MethodName) prog_5_method_3_code (1 : Nat) (Option.some Jvm.ClassFile.FieldType.long)) ∈ lw_g := List.mem_filter.mpr ⟨List.mem_append_right _ (List.mem_append_left _ (List.mem_of_getElem? (i := 213) rfl)), rfl⟩
theorem wd_214 : (Jvm.Cond.constantLong "OrderMoney$Order" (46 : Nat) (1000 : Int64)) ∈ lw_g := List.mem_filter.mpr ⟨List.mem_append_right _ (List.mem_append_left _ (List.mem_of_getElem? (i := 214) rfl)), rfl⟩
theorem wd_215 : (Jvm.Cond.methodLink "OrderMoney" (236 : Nat) ({ cls := "OrderMoney$Office", name := "keepsLimit", desc := "(JJ)Z" } : Jvm.MethodName)) ∈ lw_g := List.mem_filter.mpr ⟨List.mem_append_right _ (List.mem_append_left _ (List.mem_of_getElem? (i := 215) rfl)), rfl⟩
theorem wd_216 : (Jvm.Cond.instanceMethod ({ cls := "OrderMoney$Office", name := "keepsLimit", desc := "(JJ)Z" } : Jvm.MethodName)) ∈ lw_g := List.mem_filter.mpr ⟨List.mem_append_right _ (List.mem_append_left _ (List.mem_of_getElem? (i := 216) rfl)), rfl⟩
theorem wd_217 : (Jvm.Cond.selects "OrderMoney$Office" ({ cls := "OrderMoney$Office", name := "keepsLimit", desc := "(JJ)Z" } : Jvm.MethodName) ({ cls := "OrderMoney$Office", name := "keepsLimit", desc := "(JJ)Z" } : Jvm.MethodName)) ∈ lw_g := List.mem_filter.mpr ⟨List.mem_append_right _ (List.mem_append_left _ (List.mem_of_getElem? (i := 217) rfl)), rfl⟩
theorem wd_218 : (Jvm.Cond.code ({ cls := "OrderMoney$Office", name := "keepsLimit", desc := "(JJ)Z" } : Jvm.MethodName) prog_4_method_5_code (7 : Nat) (Option.some Jvm.ClassFile.FieldType.boolean)) ∈ lw_g := List.mem_filter.mpr ⟨List.mem_append_right _ (List.mem_append_left _ (List.mem_of_getElem? (i := 218) rfl)), rfl⟩
theorem wd_219 : (Jvm.Cond.methodLink "OrderMoney" (240 : Nat) ({ cls := "OrderMoney$Office", name := "giveOut", desc := "(J)Z" } : Jvm.MethodName)) ∈ lw_g := List.mem_filter.mpr ⟨List.mem_append_right _ (List.mem_append_left _ (List.mem_of_getElem? (i := 219) rfl)), rfl⟩
theorem wd_220 : (Jvm.Cond.instanceMethod ({ cls := "OrderMoney$Office", name := "giveOut", desc := "(J)Z" } : Jvm.MethodName)) ∈ lw_g := List.mem_filter.mpr ⟨List.mem_append_right _ (List.mem_append_left _ (List.mem_of_getElem? (i := 220) rfl)), rfl⟩
theorem wd_221 : (Jvm.Cond.selects "OrderMoney$Office" ({ cls := "OrderMoney$Office", name := "giveOut", desc := "(J)Z" } : Jvm.MethodName) ({ cls := "OrderMoney$Office", name := "giveOut", desc := "(J)Z" } : Jvm.MethodName)) ∈ lw_g := List.mem_filter.mpr ⟨List.mem_append_right _ (List.mem_append_left _ (List.mem_of_getElem? (i := 221) rfl)), rfl⟩
theorem wd_222 : (Jvm.Cond.code ({ cls := "OrderMoney$Office", name := "giveOut", desc := "(J)Z" } : Jvm.MethodName) prog_4_method_6_code (3 : Nat) (Option.some Jvm.ClassFile.FieldType.boolean)) ∈ lw_g := List.mem_filter.mpr ⟨List.mem_append_right _ (List.mem_append_left _ (List.mem_of_getElem? (i := 222) rfl)), rfl⟩
theorem wd_223 : (Jvm.Cond.methodLink "OrderMoney" (243 : Nat) ({ cls := "OrderMoney", name := "writePaid", desc := "(LOrderMoney$Office;LOrderMoney$Order;J)V" } : Jvm.MethodName)) ∈ lw_g := List.mem_filter.mpr ⟨List.mem_append_right _ (List.mem_append_left _ (List.mem_of_getElem? (i := 223) rfl)), rfl⟩
theorem wd_225 : (Jvm.Cond.instanceMethod ({ cls := "OrderMoney", name := "writePaid", desc := "(LOrderMoney$Office;LOrderMoney$Order;J)V" } : Jvm.MethodName)) ∈ lw_g := List.mem_filter.mpr ⟨List.mem_append_right _ (List.mem_append_left _ (List.mem_of_getElem? (i := 225) rfl)), rfl⟩
theorem wd_226 : (Jvm.Cond.code ({ cls := "OrderMoney", name := "writePaid", desc := "(LOrderMoney$Office;LOrderMoney$Order;J)V" } : Jvm.MethodName) prog_1_method_31_code (5 : Nat) (Option.none : Option Jvm.ClassFile.FieldType)) ∈ lw_g := List.mem_filter.mpr ⟨List.mem_append_right _ (List.mem_append_left _ (List.mem_of_getElem? (i := 226) rfl)), rfl⟩
theorem wd_227 : (Jvm.Cond.methodLink "OrderMoney" (132 : Nat) ({ cls := "OrderMoney$Order", name := "become", desc := "(I)V" } : Jvm.MethodName)) ∈ lw_g := List.mem_filter.mpr ⟨List.mem_append_right _ (List.mem_append_left _ (List.mem_of_getElem? (i := 227) rfl)), rfl⟩
theorem wd_228 : (Jvm.Cond.instanceMethod ({ cls := "OrderMoney$Order", name := "become", desc := "(I)V" } : Jvm.MethodName)) ∈ lw_g := List.mem_filter.mpr ⟨List.mem_append_right _ (List.mem_append_left _ (List.mem_of_getElem? (i := 228) rfl)), rfl⟩
theorem wd_229 : (Jvm.Cond.selects "OrderMoney$Order" ({ cls := "OrderMoney$Order", name := "become", desc := "(I)V" } : Jvm.MethodName) ({ cls := "OrderMoney$Order", name := "become", desc := "(I)V" } : Jvm.MethodName)) ∈ lw_g := List.mem_filter.mpr ⟨List.mem_append_right _ (List.mem_append_left _ (List.mem_of_getElem? (i := 229) rfl)), rfl⟩
theorem wd_230 : (Jvm.Cond.code ({ cls := "OrderMoney$Order", name := "become", desc := "(I)V" } : Jvm.MethodName) prog_5_method_4_code (2 : Nat) (Option.none : Option Jvm.ClassFile.FieldType)) ∈ lw_g := List.mem_filter.mpr ⟨List.mem_append_right _ (List.mem_append_left _ (List.mem_of_getElem? (i := 230) rfl)), rfl⟩
theorem wd_231 : (Jvm.Cond.methodLink "OrderMoney$Order" (48 : Nat) ({ cls := "OrderMoney$Order", name := "leaveList", desc := "()V" } : Jvm.MethodName)) ∈ lw_g := List.mem_filter.mpr ⟨List.mem_append_right _ (List.mem_append_left _ (List.mem_of_getElem? (i := 231) rfl)), rfl⟩
theorem wd_232 : (Jvm.Cond.instanceMethod ({ cls := "OrderMoney$Order", name := "leaveList", desc := "()V" } : Jvm.MethodName)) ∈ lw_g := List.mem_filter.mpr ⟨List.mem_append_right _ (List.mem_append_left _ (List.mem_of_getElem? (i := 232) rfl)), rfl⟩
theorem wd_233 : (Jvm.Cond.selects "OrderMoney$Order" ({ cls := "OrderMoney$Order", name := "leaveList", desc := "()V" } : Jvm.MethodName) ({ cls := "OrderMoney$Order", name := "leaveList", desc := "()V" } : Jvm.MethodName)) ∈ lw_g := List.mem_filter.mpr ⟨List.mem_append_right _ (List.mem_append_left _ (List.mem_of_getElem? (i := 233) rfl)), rfl⟩
theorem wd_234 : (Jvm.Cond.code ({ cls := "OrderMoney$Order", name := "leaveList", desc := "()V" } : Jvm.MethodName) prog_5_method_5_code (1 : Nat) (Option.none : Option Jvm.ClassFile.FieldType)) ∈ lw_g := List.mem_filter.mpr ⟨List.mem_append_right _ (List.mem_append_left _ (List.mem_of_getElem? (i := 234) rfl)), rfl⟩
theorem wd_235 : (Jvm.Cond.methodLink "OrderMoney" (247 : Nat) ({ cls := "OrderMoney$Office", name := "know", desc := "(LOrderMoney$Order;J)V" } : Jvm.MethodName)) ∈ lw_g := List.mem_filter.mpr ⟨List.mem_append_right _ (List.mem_append_left _ (List.mem_of_getElem? (i := 235) rfl)), rfl⟩
theorem wd_236 : (Jvm.Cond.instanceMethod ({ cls := "OrderMoney$Office", name := "know", desc := "(LOrderMoney$Order;J)V" } : Jvm.MethodName)) ∈ lw_g := List.mem_filter.mpr ⟨List.mem_append_right _ (List.mem_append_left _ (List.mem_of_getElem? (i := 236) rfl)), rfl⟩
theorem wd_237 : (Jvm.Cond.selects "OrderMoney$Office" ({ cls := "OrderMoney$Office", name := "know", desc := "(LOrderMoney$Order;J)V" } : Jvm.MethodName) ({ cls := "OrderMoney$Office", name := "know", desc := "(LOrderMoney$Order;J)V" } : Jvm.MethodName)) ∈ lw_g := List.mem_filter.mpr ⟨List.mem_append_right _ (List.mem_append_left _ (List.mem_of_getElem? (i := 237) rfl)), rfl⟩
theorem wd_238 : (Jvm.Cond.code ({ cls := "OrderMoney$Office", name := "know", desc := "(LOrderMoney$Order;J)V" } : Jvm.MethodName) prog_4_method_7_code (4 : Nat) (Option.none : Option Jvm.ClassFile.FieldType)) ∈ lw_g := List.mem_filter.mpr ⟨List.mem_append_right _ (List.mem_append_left _ (List.mem_of_getElem? (i := 238) rfl)), rfl⟩
theorem wd_239 : (Jvm.Cond.methodLink "OrderMoney$Office" (47 : Nat) ({ cls := "OrderMoney$Order", name := "sum", desc := "()J" } : Jvm.MethodName)) ∈ lw_g := List.mem_filter.mpr ⟨List.mem_append_right _ (List.mem_append_left _ (List.mem_of_getElem? (i := 239) rfl)), rfl⟩
theorem wd_240 : (Jvm.Cond.methodLink "OrderMoney" (251 : Nat) ({ cls := "OrderMoney$Office", name := "knownWith", desc := "(I)I" } : Jvm.MethodName)) ∈ lw_g := List.mem_filter.mpr ⟨List.mem_append_right _ (List.mem_append_right _ (List.mem_append_left _ (List.mem_of_getElem? (i := 0) rfl))), rfl⟩
theorem wd_241 : (Jvm.Cond.instanceMethod ({ cls := "OrderMoney$Office", name := "knownWith", desc := "(I)I" } : Jvm.MethodName)) ∈ lw_g := List.mem_filter.mpr ⟨List.mem_append_right _ (List.mem_append_right _ (List.mem_append_left _ (List.mem_of_getElem? (i := 1) rfl))), rfl⟩
theorem wd_242 : (Jvm.Cond.selects "OrderMoney$Office" ({ cls := "OrderMoney$Office", name := "knownWith", desc := "(I)I" } : Jvm.MethodName) ({ cls := "OrderMoney$Office", name := "knownWith", desc := "(I)I" } : Jvm.MethodName)) ∈ lw_g := List.mem_filter.mpr ⟨List.mem_append_right _ (List.mem_append_right _ (List.mem_append_left _ (List.mem_of_getElem? (i := 2) rfl))), rfl⟩
theorem wd_243 : (Jvm.Cond.code ({ cls := "OrderMoney$Office", name := "knownWith", desc := "(I)I" } : Jvm.MethodName) prog_4_method_8_code (4 : Nat) (Option.some Jvm.ClassFile.FieldType.int)) ∈ lw_g := List.mem_filter.mpr ⟨List.mem_append_right _ (List.mem_append_right _ (List.mem_append_left _ (List.mem_of_getElem? (i := 3) rfl))), rfl⟩
theorem wd_244 : (Jvm.Cond.methodLink "OrderMoney" (232 : Nat) ({ cls := "OrderMoney", name := "undoSteps", desc := "(ILOrderMoney$Office;LOrderMoney$Order;)V" } : Jvm.MethodName)) ∈ lw_g := List.mem_filter.mpr ⟨List.mem_append_right _ (List.mem_append_right _ (List.mem_append_left _ (List.mem_of_getElem? (i := 4) rfl))), rfl⟩
theorem wd_246 : (Jvm.Cond.instanceMethod ({ cls := "OrderMoney", name := "undoSteps", desc := "(ILOrderMoney$Office;LOrderMoney$Order;)V" } : Jvm.MethodName)) ∈ lw_g := List.mem_filter.mpr ⟨List.mem_append_right _ (List.mem_append_right _ (List.mem_append_left _ (List.mem_of_getElem? (i := 6) rfl))), rfl⟩
theorem wd_247 : (Jvm.Cond.code ({ cls := "OrderMoney", name := "undoSteps", desc := "(ILOrderMoney$Office;LOrderMoney$Order;)V" } : Jvm.MethodName) prog_1_method_30_code (5 : Nat) (Option.none : Option Jvm.ClassFile.FieldType)) ∈ lw_g := List.mem_filter.mpr ⟨List.mem_append_right _ (List.mem_append_right _ (List.mem_append_left _ (List.mem_of_getElem? (i := 7) rfl))), rfl⟩
theorem wd_251 : (Jvm.Cond.code ({ cls := "OrderMoney", name := "fails", desc := "(II)I" } : Jvm.MethodName) prog_1_method_4_code (4 : Nat) (Option.some Jvm.ClassFile.FieldType.int)) ∈ lw_g := List.mem_filter.mpr ⟨List.mem_append_right _ (List.mem_append_right _ (List.mem_append_left _ (List.mem_of_getElem? (i := 11) rfl))), rfl⟩
theorem wd_252 : (Jvm.Cond.methodLink "OrderMoney" (91 : Nat) ({ cls := "OrderMoney$Office", name := "tellToFail", desc := "(I)Z" } : Jvm.MethodName)) ∈ lw_g := List.mem_filter.mpr ⟨List.mem_append_right _ (List.mem_append_right _ (List.mem_append_left _ (List.mem_of_getElem? (i := 12) rfl))), rfl⟩
theorem wd_253 : (Jvm.Cond.instanceMethod ({ cls := "OrderMoney$Office", name := "tellToFail", desc := "(I)Z" } : Jvm.MethodName)) ∈ lw_g := List.mem_filter.mpr ⟨List.mem_append_right _ (List.mem_append_right _ (List.mem_append_left _ (List.mem_of_getElem? (i := 13) rfl))), rfl⟩
theorem wd_254 : (Jvm.Cond.selects "OrderMoney$Office" ({ cls := "OrderMoney$Office", name := "tellToFail", desc := "(I)Z" } : Jvm.MethodName) ({ cls := "OrderMoney$Office", name := "tellToFail", desc := "(I)Z" } : Jvm.MethodName)) ∈ lw_g := List.mem_filter.mpr ⟨List.mem_append_right _ (List.mem_append_right _ (List.mem_append_left _ (List.mem_of_getElem? (i := 14) rfl))), rfl⟩
theorem wd_255 : (Jvm.Cond.code ({ cls := "OrderMoney$Office", name := "tellToFail", desc := "(I)Z" } : Jvm.MethodName) prog_4_method_3_code (4 : Nat) (Option.some Jvm.ClassFile.FieldType.boolean)) ∈ lw_g := List.mem_filter.mpr ⟨List.mem_append_right _ (List.mem_append_right _ (List.mem_append_left _ (List.mem_of_getElem? (i := 15) rfl))), rfl⟩
theorem wd_259 : (Jvm.Cond.code ({ cls := "OrderMoney", name := "ask", desc := "(IJIJ)I" } : Jvm.MethodName) prog_1_method_5_code (7 : Nat) (Option.some Jvm.ClassFile.FieldType.int)) ∈ lw_g := List.mem_filter.mpr ⟨List.mem_append_right _ (List.mem_append_right _ (List.mem_append_left _ (List.mem_of_getElem? (i := 19) rfl))), rfl⟩
theorem wd_260 : (Jvm.Cond.instantiable "OrderMoney$Try" (5 : Nat)) ∈ lw_g := List.mem_filter.mpr ⟨List.mem_append_right _ (List.mem_append_right _ (List.mem_append_left _ (List.mem_of_getElem? (i := 20) rfl))), rfl⟩
theorem wd_261 : (Jvm.Cond.methodLink "OrderMoney" (101 : Nat) ({ cls := "OrderMoney$Try", name := "<init>", desc := "(IJIJ)V" } : Jvm.MethodName)) ∈ lw_g := List.mem_filter.mpr ⟨List.mem_append_right _ (List.mem_append_right _ (List.mem_append_left _ (List.mem_of_getElem? (i := 21) rfl))), rfl⟩
theorem wd_262 : (Jvm.Cond.instanceMethod ({ cls := "OrderMoney$Try", name := "<init>", desc := "(IJIJ)V" } : Jvm.MethodName)) ∈ lw_g := List.mem_filter.mpr ⟨List.mem_append_right _ (List.mem_append_right _ (List.mem_append_left _ (List.mem_of_getElem? (i := 22) rfl))), rfl⟩
theorem wd_263 : (Jvm.Cond.code ({ cls := "OrderMoney$Try", name := "<init>", desc := "(IJIJ)V" } : Jvm.MethodName) prog_6_method_1_code (7 : Nat) (Option.none : Option Jvm.ClassFile.FieldType)) ∈ lw_g := List.mem_filter.mpr ⟨List.mem_append_right _ (List.mem_append_right _ (List.mem_append_left _ (List.mem_of_getElem? (i := 23) rfl))), rfl⟩
theorem wd_264 : (Jvm.Cond.methodLink "OrderMoney$Try" (3 : Nat) ({ cls := "java/lang/Object", name := "<init>", desc := "()V" } : Jvm.MethodName)) ∈ lw_g := List.mem_filter.mpr ⟨List.mem_append_right _ (List.mem_append_right _ (List.mem_append_left _ (List.mem_of_getElem? (i := 24) rfl))), rfl⟩
theorem wd_265 : (Jvm.Cond.fieldLink "OrderMoney$Try" (15 : Nat) "OrderMoney$Try" "office" "I") ∈ lw_g := List.mem_filter.mpr ⟨List.mem_append_right _ (List.mem_append_right _ (List.mem_append_left _ (List.mem_of_getElem? (i := 25) rfl))), rfl⟩
theorem wd_266 : (Jvm.Cond.fieldLinkNest "OrderMoney" (110 : Nat) "OrderMoney$Try" "office" "I" "OrderMoney") ∈ lw_tbl := List.mem_append_right _ (List.mem_append_right _ (List.mem_append_left _ (List.mem_of_getElem? (i := 26) rfl)))
theorem wd_267 : (Jvm.Cond.fieldLink "OrderMoney$Try" (18 : Nat) "OrderMoney$Try" "number" "J") ∈ lw_g := List.mem_filter.mpr ⟨List.mem_append_right _ (List.mem_append_right _ (List.mem_append_left _ (List.mem_of_getElem? (i := 27) rfl))), rfl⟩
theorem wd_268 : (Jvm.Cond.fieldLinkNest "OrderMoney" (113 : Nat) "OrderMoney$Try" "number" "J" "OrderMoney") ∈ lw_tbl := List.mem_append_right _ (List.mem_append_right _ (List.mem_append_left _ (List.mem_of_getElem? (i := 28) rfl)))
theorem wd_269 : (Jvm.Cond.fieldLink "OrderMoney$Try" (22 : Nat) "OrderMoney$Try" "proof" "I") ∈ lw_g := List.mem_filter.mpr ⟨List.mem_append_right _ (List.mem_append_right _ (List.mem_append_left _ (List.mem_of_getElem? (i := 29) rfl))), rfl⟩
theorem wd_270 : (Jvm.Cond.fieldLinkNest "OrderMoney" (116 : Nat) "OrderMoney$Try" "proof" "I" "OrderMoney") ∈ lw_tbl := List.mem_append_right _ (List.mem_append_right _ (List.mem_append_left _ (List.mem_of_getElem? (i := 30) rfl)))
theorem wd_271 : (Jvm.Cond.fieldLink "OrderMoney$Try" (25 : Nat) "OrderMoney$Try" "t" "J") ∈ lw_g := List.mem_filter.mpr ⟨List.mem_append_right _ (List.mem_append_right _ (List.mem_append_left _ (List.mem_of_getElem? (i := 31) rfl))), rfl⟩
theorem wd_272 : (Jvm.Cond.fieldLinkNest "OrderMoney" (119 : Nat) "OrderMoney$Try" "t" "J" "OrderMoney") ∈ lw_tbl := List.mem_append_right _ (List.mem_append_right _ (List.mem_append_left _ (List.mem_of_getElem? (i := 32) rfl)))
theorem wd_273 : (Jvm.Cond.fieldLink "OrderMoney$Try" (9 : Nat) "OrderMoney$Try" "cameTo" "I") ∈ lw_g := List.mem_filter.mpr ⟨List.mem_append_right _ (List.mem_append_right _ (List.mem_append_left _ (List.mem_of_getElem? (i := 33) rfl))), rfl⟩
theorem wd_274 : (Jvm.Cond.fieldLinkNest "OrderMoney" (126 : Nat) "OrderMoney$Try" "cameTo" "I" "OrderMoney") ∈ lw_tbl := List.mem_append_right _ (List.mem_append_right _ (List.mem_append_left _ (List.mem_of_getElem? (i := 34) rfl)))
theorem wd_289 : (Jvm.Cond.code ({ cls := "OrderMoney", name := "serve", desc := "(I)I" } : Jvm.MethodName) prog_1_method_6_code (5 : Nat) (Option.some Jvm.ClassFile.FieldType.int)) ∈ lw_g := List.mem_filter.mpr ⟨List.mem_append_right _ (List.mem_append_right _ (List.mem_append_left _ (List.mem_of_getElem? (i := 49) rfl))), rfl⟩
theorem wd_290 : (Jvm.Cond.methodLink "OrderMoney" (104 : Nat) ({ cls := "java/lang/Math", name := "min", desc := "(II)I" } : Jvm.MethodName)) ∈ lw_g := List.mem_filter.mpr ⟨List.mem_append_right _ (List.mem_append_right _ (List.mem_append_left _ (List.mem_of_getElem? (i := 50) rfl))), rfl⟩
theorem wd_291 : (Jvm.Cond.static ({ cls := "java/lang/Math", name := "min", desc := "(II)I" } : Jvm.MethodName)) ∈ lw_g := List.mem_filter.mpr ⟨List.mem_append_right _ (List.mem_append_right _ (List.mem_append_left _ (List.mem_of_getElem? (i := 51) rfl))), rfl⟩
theorem wd_292 : (Jvm.Cond.code ({ cls := "java/lang/Math", name := "min", desc := "(II)I" } : Jvm.MethodName) prog_9_method_69_code (2 : Nat) (Option.some Jvm.ClassFile.FieldType.int)) ∈ lw_g := List.mem_filter.mpr ⟨List.mem_append_right _ (List.mem_append_right _ (List.mem_append_left _ (List.mem_of_getElem? (i := 52) rfl))), rfl⟩
theorem wd_293 : (Jvm.Cond.methodLink "OrderMoney" (122 : Nat) ({ cls := "OrderMoney", name := "pay", desc := "(IJIJ)I" } : Jvm.MethodName)) ∈ lw_g := List.mem_filter.mpr ⟨List.mem_append_right _ (List.mem_append_right _ (List.mem_append_left _ (List.mem_of_getElem? (i := 53) rfl))), rfl⟩
theorem wd_297 : (Jvm.Cond.code ({ cls := "OrderMoney", name := "answer", desc := "(I)I" } : Jvm.MethodName) prog_1_method_7_code (3 : Nat) (Option.some Jvm.ClassFile.FieldType.int)) ∈ lw_g := List.mem_filter.mpr ⟨List.mem_append_right _ (List.mem_append_right _ (List.mem_append_left _ (List.mem_of_getElem? (i := 57) rfl))), rfl⟩
theorem wd_301 : (Jvm.Cond.code ({ cls := "OrderMoney", name := "bar", desc := "(JJ)I" } : Jvm.MethodName) prog_1_method_8_code (6 : Nat) (Option.some Jvm.ClassFile.FieldType.int)) ∈ lw_g := List.mem_filter.mpr ⟨List.mem_append_right _ (List.mem_append_right _ (List.mem_append_left _ (List.mem_of_getElem? (i := 61) rfl))), rfl⟩
theorem wd_305 : (Jvm.Cond.code ({ cls := "OrderMoney", name := "since", desc := "(J)J" } : Jvm.MethodName) prog_1_method_9_code (4 : Nat) (Option.some Jvm.ClassFile.FieldType.long)) ∈ lw_g := List.mem_filter.mpr ⟨List.mem_append_right _ (List.mem_append_right _ (List.mem_append_left _ (List.mem_of_getElem? (i := 65) rfl))), rfl⟩
theorem wd_306 : (Jvm.Cond.constantLong "OrderMoney" (135 : Nat) (-101 : Int64)) ∈ lw_g := List.mem_filter.mpr ⟨List.mem_append_right _ (List.mem_append_right _ (List.mem_append_left _ (List.mem_of_getElem? (i := 66) rfl))), rfl⟩
theorem wd_310 : (Jvm.Cond.code ({ cls := "OrderMoney", name := "replace", desc := "(J)I" } : Jvm.MethodName) prog_1_method_10_code (4 : Nat) (Option.some Jvm.ClassFile.FieldType.int)) ∈ lw_g := List.mem_filter.mpr ⟨List.mem_append_right _ (List.mem_append_right _ (List.mem_append_left _ (List.mem_of_getElem? (i := 70) rfl))), rfl⟩
theorem wd_311 : (Jvm.Cond.methodLink "OrderMoney" (137 : Nat) ({ cls := "OrderMoney$Order", name := "isUnpaid", desc := "()Z" } : Jvm.MethodName)) ∈ lw_g := List.mem_filter.mpr ⟨List.mem_append_right _ (List.mem_append_right _ (List.mem_append_left _ (List.mem_of_getElem? (i := 71) rfl))), rfl⟩
theorem wd_312 : (Jvm.Cond.instanceMethod ({ cls := "OrderMoney$Order", name := "isUnpaid", desc := "()Z" } : Jvm.MethodName)) ∈ lw_g := List.mem_filter.mpr ⟨List.mem_append_right _ (List.mem_append_right _ (List.mem_append_left _ (List.mem_of_getElem? (i := 72) rfl))), rfl⟩
theorem wd_313 : (Jvm.Cond.selects "OrderMoney$Order" ({ cls := "OrderMoney$Order", name := "isUnpaid", desc := "()Z" } : Jvm.MethodName) ({ cls := "OrderMoney$Order", name := "isUnpaid", desc := "()Z" } : Jvm.MethodName)) ∈ lw_g := List.mem_filter.mpr ⟨List.mem_append_right _ (List.mem_append_right _ (List.mem_append_left _ (List.mem_of_getElem? (i := 73) rfl))), rfl⟩
theorem wd_314 : (Jvm.Cond.code ({ cls := "OrderMoney$Order", name := "isUnpaid", desc := "()Z" } : Jvm.MethodName) prog_5_method_2_code (1 : Nat) (Option.some Jvm.ClassFile.FieldType.boolean)) ∈ lw_g := List.mem_filter.mpr ⟨List.mem_append_right _ (List.mem_append_right _ (List.mem_append_left _ (List.mem_of_getElem? (i := 74) rfl))), rfl⟩
theorem wd_318 : (Jvm.Cond.code ({ cls := "OrderMoney", name := "cut", desc := "(IZ)I" } : Jvm.MethodName) prog_1_method_11_code (4 : Nat) (Option.some Jvm.ClassFile.FieldType.int)) ∈ lw_g := List.mem_filter.mpr ⟨List.mem_append_right _ (List.mem_append_right _ (List.mem_append_left _ (List.mem_of_getElem? (i := 78) rfl))), rfl⟩
theorem wd_319 : (Jvm.Cond.methodLink "OrderMoney" (157 : Nat) ({ cls := "OrderMoney", name := "emptyListOf", desc := "(LOrderMoney$Office;)V" } : Jvm.MethodName)) ∈ lw_g := List.mem_filter.mpr ⟨List.mem_append_right _ (List.mem_append_right _ (List.mem_append_left _ (List.mem_of_getElem? (i := 79) rfl))), rfl⟩
theorem wd_321 : (Jvm.Cond.instanceMethod ({ cls := "OrderMoney", name := "emptyListOf", desc := "(LOrderMoney$Office;)V" } : Jvm.MethodName)) ∈ lw_g := List.mem_filter.mpr ⟨List.mem_append_right _ (List.mem_append_right _ (List.mem_append_left _ (List.mem_of_getElem? (i := 81) rfl))), rfl⟩
theorem wd_322 : (Jvm.Cond.code ({ cls := "OrderMoney", name := "emptyListOf", desc := "(LOrderMoney$Office;)V" } : Jvm.MethodName) prog_1_method_32_code (4 : Nat) (Option.none : Option Jvm.ClassFile.FieldType)) ∈ lw_g := List.mem_filter.mpr ⟨List.mem_append_right _ (List.mem_append_right _ (List.mem_append_left _ (List.mem_of_getElem? (i := 82) rfl))), rfl⟩
theorem wd_323 : (Jvm.Cond.methodLink "OrderMoney" (254 : Nat) ({ cls := "OrderMoney$Order", name := "leaveList", desc := "()V" } : Jvm.MethodName)) ∈ lw_g := List.mem_filter.mpr ⟨List.mem_append_right _ (List.mem_append_right _ (List.mem_append_left _ (List.mem_of_getElem? (i := 83) rfl))), rfl⟩
theorem wd_327 : (Jvm.Cond.code ({ cls := "OrderMoney", name := "list", desc := "(IJ)I" } : Jvm.MethodName) prog_1_method_12_code (6 : Nat) (Option.some Jvm.ClassFile.FieldType.int)) ∈ lw_g := List.mem_filter.mpr ⟨List.mem_append_right _ (List.mem_append_right _ (List.mem_append_left _ (List.mem_of_getElem? (i := 87) rfl))), rfl⟩
theorem wd_331 : (Jvm.Cond.code ({ cls := "OrderMoney", name := "set", desc := "(IIJ)I" } : Jvm.MethodName) prog_1_method_13_code (5 : Nat) (Option.some Jvm.ClassFile.FieldType.int)) ∈ lw_g := List.mem_filter.mpr ⟨List.mem_append_right _ (List.mem_append_right _ (List.mem_append_left _ (List.mem_of_getElem? (i := 91) rfl))), rfl⟩
theorem wd_332 : (Jvm.Cond.methodLink "OrderMoney" (167 : Nat) ({ cls := "OrderMoney", name := "changeTill", desc := "(LOrderMoney$Office;J)I" } : Jvm.MethodName)) ∈ lw_g := List.mem_filter.mpr ⟨List.mem_append_right _ (List.mem_append_right _ (List.mem_append_left _ (List.mem_of_getElem? (i := 92) rfl))), rfl⟩
theorem wd_334 : (Jvm.Cond.instanceMethod ({ cls := "OrderMoney", name := "changeTill", desc := "(LOrderMoney$Office;J)I" } : Jvm.MethodName)) ∈ lw_g := List.mem_filter.mpr ⟨List.mem_append_right _ (List.mem_append_right _ (List.mem_append_left _ (List.mem_of_getElem? (i := 94) rfl))), rfl⟩
theorem wd_335 : (Jvm.Cond.code ({ cls := "OrderMoney", name := "changeTill", desc := "(LOrderMoney$Office;J)I" } : Jvm.MethodName) prog_1_method_33_code (4 : Nat) (Option.some Jvm.ClassFile.FieldType.int)) ∈ lw_g := List.mem_filter.mpr ⟨List.mem_append_right _ (List.mem_append_right _ (List.mem_append_left _ (List.mem_of_getElem? (i := 95) rfl))), rfl⟩
theorem wd_336 : (Jvm.Cond.constantLong "OrderMoney" (257 : Nat) (-1000000000 : Int64)) ∈ lw_g := List.mem_filter.mpr ⟨List.mem_append_right _ (List.mem_append_right _ (List.mem_append_left _ (List.mem_of_getElem? (i := 96) rfl))), rfl⟩
theorem wd_337 : (Jvm.Cond.constantLong "OrderMoney" (259 : Nat) (1000000000 : Int64)) ∈ lw_g := List.mem_filter.mpr ⟨List.mem_append_right _ (List.mem_append_right _ (List.mem_append_left _ (List.mem_of_getElem? (i := 97) rfl))), rfl⟩
theorem wd_338 : (Jvm.Cond.methodLink "OrderMoney" (171 : Nat) ({ cls := "OrderMoney", name := "changeLimit", desc := "(LOrderMoney$Office;J)I" } : Jvm.MethodName)) ∈ lw_g := List.mem_filter.mpr ⟨List.mem_append_right _ (List.mem_append_right _ (List.mem_append_left _ (List.mem_of_getElem? (i := 98) rfl))), rfl⟩
theorem wd_339 : (Jvm.Cond.static ({ cls := "OrderMoney", name := "changeLimit", desc := "(LOrderMoney$Office;J)I" } : Jvm.MethodName)) ∈ lw_g := List.mem_filter.mpr ⟨List.mem_append_right _ (List.mem_append_right _ (List.mem_append_left _ (List.mem_of_getElem? (i := 99) rfl))), rfl⟩
theorem wd_340 : (Jvm.Cond.code ({ cls := "OrderMoney", name := "changeLimit", desc := "(LOrderMoney$Office;J)I" } : Jvm.MethodName) prog_1_method_34_code (3 : Nat) (Option.some Jvm.ClassFile.FieldType.int)) ∈ lw_g := List.mem_filter.mpr ⟨List.mem_append_right _ (List.mem_append_right _ (List.mem_append_left _ (List.mem_of_getElem? (i := 100) rfl))), rfl⟩
theorem wd_341 : (Jvm.Cond.constantLong "OrderMoney" (210 : Nat) (-1 : Int64)) ∈ lw_g := List.mem_filter.mpr ⟨List.mem_append_right _ (List.mem_append_right _ (List.mem_append_left _ (List.mem_of_getElem? (i := 101) rfl))), rfl⟩
theorem wd_342 : (Jvm.Cond.methodLink "OrderMoney" (174 : Nat) ({ cls := "OrderMoney", name := "changeRate", desc := "(LOrderMoney$Currency;J)I" } : Jvm.MethodName)) ∈ lw_g := List.mem_filter.mpr ⟨List.mem_append_right _ (List.mem_append_right _ (List.mem_append_left _ (List.mem_of_getElem? (i := 102) rfl))), rfl⟩
theorem wd_343 : (Jvm.Cond.static ({ cls := "OrderMoney", name := "changeRate", desc := "(LOrderMoney$Currency;J)I" } : Jvm.MethodName)) ∈ lw_g := List.mem_filter.mpr ⟨List.mem_append_right _ (List.mem_append_right _ (List.mem_append_left _ (List.mem_of_getElem? (i := 103) rfl))), rfl⟩
theorem wd_344 : (Jvm.Cond.code ({ cls := "OrderMoney", name := "changeRate", desc := "(LOrderMoney$Currency;J)I" } : Jvm.MethodName) prog_1_method_35_code (3 : Nat) (Option.some Jvm.ClassFile.FieldType.int)) ∈ lw_g := List.mem_filter.mpr ⟨List.mem_append_right _ (List.mem_append_right _ (List.mem_append_left _ (List.mem_of_getElem? (i := 104) rfl))), rfl⟩
theorem wd_345 : (Jvm.Cond.constantLong "OrderMoney" (264 : Nat) (100000 : Int64)) ∈ lw_g := List.mem_filter.mpr ⟨List.mem_append_right _ (List.mem_append_right _ (List.mem_append_left _ (List.mem_of_getElem? (i := 105) rfl))), rfl⟩
theorem wd_349 : (Jvm.Cond.code ({ cls := "OrderMoney", name := "collect", desc := "(IJI)I" } : Jvm.MethodName) prog_1_method_14_code (6 : Nat) (Option.some Jvm.ClassFile.FieldType.int)) ∈ lw_g := List.mem_filter.mpr ⟨List.mem_append_right _ (List.mem_append_right _ (List.mem_append_left _ (List.mem_of_getElem? (i := 109) rfl))), rfl⟩
theorem wd_350 : (Jvm.Cond.methodLink "OrderMoney" (178 : Nat) ({ cls := "OrderMoney", name := "isCollectDay", desc := "(I)Z" } : Jvm.MethodName)) ∈ lw_g := List.mem_filter.mpr ⟨List.mem_append_right _ (List.mem_append_right _ (List.mem_append_left _ (List.mem_of_getElem? (i := 110) rfl))), rfl⟩
theorem wd_351 : (Jvm.Cond.static ({ cls := "OrderMoney", name := "isCollectDay", desc := "(I)Z" } : Jvm.MethodName)) ∈ lw_g := List.mem_filter.mpr ⟨List.mem_append_right _ (List.mem_append_right _ (List.mem_append_left _ (List.mem_of_getElem? (i := 111) rfl))), rfl⟩
theorem wd_352 : (Jvm.Cond.code ({ cls := "OrderMoney", name := "isCollectDay", desc := "(I)Z" } : Jvm.MethodName) prog_1_method_24_code (1 : Nat) (Option.some Jvm.ClassFile.FieldType.boolean)) ∈ lw_g := List.mem_filter.mpr ⟨List.mem_append_right _ (List.mem_append_right _ (List.mem_append_left _ (List.mem_of_getElem? (i := 112) rfl))), rfl⟩
theorem wd_353 : (Jvm.Cond.instantiable "OrderMoney$Collected" (3 : Nat)) ∈ lw_g := List.mem_filter.mpr ⟨List.mem_append_right _ (List.mem_append_right _ (List.mem_append_left _ (List.mem_of_getElem? (i := 113) rfl))), rfl⟩
theorem wd_354 : (Jvm.Cond.methodLink "OrderMoney" (184 : Nat) ({ cls := "OrderMoney$Collected", name := "<init>", desc := "(LOrderMoney$Office;JI)V" } : Jvm.MethodName)) ∈ lw_g := List.mem_filter.mpr ⟨List.mem_append_right _ (List.mem_append_right _ (List.mem_append_left _ (List.mem_of_getElem? (i := 114) rfl))), rfl⟩
theorem wd_355 : (Jvm.Cond.instanceMethod ({ cls := "OrderMoney$Collected", name := "<init>", desc := "(LOrderMoney$Office;JI)V" } : Jvm.MethodName)) ∈ lw_g := List.mem_filter.mpr ⟨List.mem_append_right _ (List.mem_append_right _ (List.mem_append_left _ (List.mem_of_getElem? (i := 115) rfl))), rfl⟩
theorem wd_356 : (Jvm.Cond.code ({ cls := "OrderMoney$Collected", name := "<init>", desc := "(LOrderMoney$Office;JI)V" } : Jvm.MethodName) prog_2_method_1_code (5 : Nat) (Option.none : Option Jvm.ClassFile.FieldType)) ∈ lw_g := List.mem_filter.mpr ⟨List.mem_append_right _ (List.mem_append_right _ (List.mem_append_left _ (List.mem_of_getElem? (i := 116) rfl))), rfl⟩
theorem wd_357 : (Jvm.Cond.methodLink "OrderMoney$Collected" (1 : Nat) ({ cls := "java/lang/Object", name := "<init>", desc := "()V" } : Jvm.MethodName)) ∈ lw_g := List.mem_filter.mpr ⟨List.mem_append_right _ (List.mem_append_right _ (List.mem_append_left _ (List.mem_of_getElem? (i := 117) rfl))), rfl⟩
theorem wd_358 : (Jvm.Cond.fieldLink "OrderMoney$Collected" (7 : Nat) "OrderMoney$Collected" "office" "LOrderMoney$Office;") ∈ lw_g := List.mem_filter.mpr ⟨List.mem_append_right _ (List.mem_append_right _ (List.mem_append_left _ (List.mem_of_getElem? (i := 118) rfl))), rfl⟩
theorem wd_359 : (Jvm.Cond.fieldLinkNest "OrderMoney" (272 : Nat) "OrderMoney$Collected" "office" "LOrderMoney$Office;" "OrderMoney") ∈ lw_tbl := List.mem_append_right _ (List.mem_append_right _ (List.mem_append_left _ (List.mem_of_getElem? (i := 119) rfl)))
theorem wd_360 : (Jvm.Cond.fieldLink "OrderMoney$Collected" (13 : Nat) "OrderMoney$Collected" "cents" "J") ∈ lw_g := List.mem_filter.mpr ⟨List.mem_append_right _ (List.mem_append_right _ (List.mem_append_left _ (List.mem_of_getElem? (i := 120) rfl))), rfl⟩
theorem wd_361 : (Jvm.Cond.fieldLinkNest "OrderMoney" (274 : Nat) "OrderMoney$Collected" "cents" "J" "OrderMoney") ∈ lw_tbl := List.mem_append_right _ (List.mem_append_right _ (List.mem_append_left _ (List.mem_of_getElem? (i := 121) rfl)))
theorem wd_362 : (Jvm.Cond.fieldLink "OrderMoney$Collected" (17 : Nat) "OrderMoney$Collected" "day" "I") ∈ lw_g := List.mem_filter.mpr ⟨List.mem_append_right _ (List.mem_append_right _ (List.mem_append_left _ (List.mem_of_getElem? (i := 122) rfl))), rfl⟩
theorem wd_363 : (Jvm.Cond.fieldLinkNest "OrderMoney" (269 : Nat) "OrderMoney$Collected" "day" "I" "OrderMoney") ∈ lw_tbl := List.mem_append_right _ (List.mem_append_right _ (List.mem_append_left _ (List.mem_of_getElem? (i := 123) rfl)))
theorem wd_374 : (Jvm.Cond.code ({ cls := "OrderMoney", name := "pass", desc := "(I)I" } : Jvm.MethodName) prog_1_method_15_code (6 : Nat) (Option.some Jvm.ClassFile.FieldType.int)) ∈ lw_g := List.mem_filter.mpr ⟨List.mem_append_right _ (List.mem_append_right _ (List.mem_append_left _ (List.mem_of_getElem? (i := 134) rfl))), rfl⟩
theorem wd_375 : (Jvm.Cond.methodLink "OrderMoney" (187 : Nat) ({ cls := "OrderMoney", name := "passOn", desc := "(LOrderMoney$Collected;I)Z" } : Jvm.MethodName)) ∈ lw_g := List.mem_filter.mpr ⟨List.mem_append_right _ (List.mem_append_right _ (List.mem_append_left _ (List.mem_of_getElem? (i := 135) rfl))), rfl⟩
theorem wd_377 : (Jvm.Cond.instanceMethod ({ cls := "OrderMoney", name := "passOn", desc := "(LOrderMoney$Collected;I)Z" } : Jvm.MethodName)) ∈ lw_g := List.mem_filter.mpr ⟨List.mem_append_right _ (List.mem_append_right _ (List.mem_append_left _ (List.mem_of_getElem? (i := 137) rfl))), rfl⟩
theorem wd_378 : (Jvm.Cond.code ({ cls := "OrderMoney", name := "passOn", desc := "(LOrderMoney$Collected;I)Z" } : Jvm.MethodName) prog_1_method_36_code (3 : Nat) (Option.some Jvm.ClassFile.FieldType.boolean)) ∈ lw_g := List.mem_filter.mpr ⟨List.mem_append_right _ (List.mem_append_right _ (List.mem_append_left _ (List.mem_of_getElem? (i := 138) rfl))), rfl⟩
theorem wd_382 : (Jvm.Cond.code ({ cls := "OrderMoney", name := "tick", desc := "(J)I" } : Jvm.MethodName) prog_1_method_16_code (6 : Nat) (Option.some Jvm.ClassFile.FieldType.int)) ∈ lw_g := List.mem_filter.mpr ⟨List.mem_append_right _ (List.mem_append_right _ (List.mem_append_left _ (List.mem_of_getElem? (i := 142) rfl))), rfl⟩
theorem wd_383 : (Jvm.Cond.methodLink "OrderMoney" (191 : Nat) ({ cls := "OrderMoney", name := "sendBack", desc := "(LOrderMoney$Order;)Z" } : Jvm.MethodName)) ∈ lw_g := List.mem_filter.mpr ⟨List.mem_append_right _ (List.mem_append_right _ (List.mem_append_left _ (List.mem_of_getElem? (i := 143) rfl))), rfl⟩
theorem wd_385 : (Jvm.Cond.instanceMethod ({ cls := "OrderMoney", name := "sendBack", desc := "(LOrderMoney$Order;)Z" } : Jvm.MethodName)) ∈ lw_g := List.mem_filter.mpr ⟨List.mem_append_right _ (List.mem_append_right _ (List.mem_append_left _ (List.mem_of_getElem? (i := 145) rfl))), rfl⟩
theorem wd_386 : (Jvm.Cond.code ({ cls := "OrderMoney", name := "sendBack", desc := "(LOrderMoney$Order;)Z" } : Jvm.MethodName) prog_1_method_37_code (2 : Nat) (Option.some Jvm.ClassFile.FieldType.boolean)) ∈ lw_g := List.mem_filter.mpr ⟨List.mem_append_right _ (List.mem_append_right _ (List.mem_append_left _ (List.mem_of_getElem? (i := 146) rfl))), rfl⟩
theorem wd_390 : (Jvm.Cond.code ({ cls := "OrderMoney", name := "about", desc := "(JI)J" } : Jvm.MethodName) prog_1_method_17_code (5 : Nat) (Option.some Jvm.ClassFile.FieldType.long)) ∈ lw_g := List.mem_filter.mpr ⟨List.mem_append_right _ (List.mem_append_right _ (List.mem_append_left _ (List.mem_of_getElem? (i := 150) rfl))), rfl⟩
theorem wd_391 : (Jvm.Cond.methodLink "OrderMoney" (200 : Nat) ({ cls := "OrderMoney", name := "placeOf", desc := "(LOrderMoney$Office;)J" } : Jvm.MethodName)) ∈ lw_g := List.mem_filter.mpr ⟨List.mem_append_right _ (List.mem_append_right _ (List.mem_append_left _ (List.mem_of_getElem? (i := 151) rfl))), rfl⟩
theorem wd_392 : (Jvm.Cond.static ({ cls := "OrderMoney", name := "placeOf", desc := "(LOrderMoney$Office;)J" } : Jvm.MethodName)) ∈ lw_g := List.mem_filter.mpr ⟨List.mem_append_right _ (List.mem_append_right _ (List.mem_append_left _ (List.mem_of_getElem? (i := 152) rfl))), rfl⟩
theorem wd_393 : (Jvm.Cond.code ({ cls := "OrderMoney", name := "placeOf", desc := "(LOrderMoney$Office;)J" } : Jvm.MethodName) prog_1_method_22_code (1 : Nat) (Option.some Jvm.ClassFile.FieldType.long)) ∈ lw_g := List.mem_filter.mpr ⟨List.mem_append_right _ (List.mem_append_right _ (List.mem_append_left _ (List.mem_of_getElem? (i := 153) rfl))), rfl⟩
theorem wd_394 : (Jvm.Cond.constantLong "OrderMoney" (208 : Nat) (-102 : Int64)) ∈ lw_g := List.mem_filter.mpr ⟨List.mem_append_right _ (List.mem_append_right _ (List.mem_append_left _ (List.mem_of_getElem? (i := 154) rfl))), rfl⟩
theorem wd_398 : (Jvm.Cond.code ({ cls := "OrderMoney", name := "till", desc := "(I)J" } : Jvm.MethodName) prog_1_method_18_code (3 : Nat) (Option.some Jvm.ClassFile.FieldType.long)) ∈ lw_g := List.mem_filter.mpr ⟨List.mem_append_right _ (List.mem_append_right _ (List.mem_append_left _ (List.mem_of_getElem? (i := 158) rfl))), rfl⟩
theorem wd_402 : (Jvm.Cond.code ({ cls := "OrderMoney", name := "all", desc := "(I)J" } : Jvm.MethodName) prog_1_method_19_code (2 : Nat) (Option.some Jvm.ClassFile.FieldType.long)) ∈ lw_g := List.mem_filter.mpr ⟨List.mem_append_right _ (List.mem_append_right _ (List.mem_append_left _ (List.mem_of_getElem? (i := 162) rfl))), rfl⟩
theorem wd_407 : (Jvm.Cond.code ({ cls := "OrderMoneyModel", name := "<init>", desc := "()V" } : Jvm.MethodName) prog_8_method_1_code (1 : Nat) (Option.none : Option Jvm.ClassFile.FieldType)) ∈ lw_g := List.mem_filter.mpr ⟨List.mem_append_right _ (List.mem_append_right _ (List.mem_append_left _ (List.mem_of_getElem? (i := 167) rfl))), rfl⟩
theorem wd_408 : (Jvm.Cond.methodLink "OrderMoneyModel" (1 : Nat) ({ cls := "java/lang/Object", name := "<init>", desc := "()V" } : Jvm.MethodName)) ∈ lw_g := List.mem_filter.mpr ⟨List.mem_append_right _ (List.mem_append_right _ (List.mem_append_left _ (List.mem_of_getElem? (i := 168) rfl))), rfl⟩
theorem wd_409 : (Jvm.Cond.constantLong "OrderMoneyModel" (42 : Nat) (1000 : Int64)) ∈ lw_g := List.mem_filter.mpr ⟨List.mem_append_right _ (List.mem_append_right _ (List.mem_append_left _ (List.mem_of_getElem? (i := 169) rfl))), rfl⟩
theorem wd_410 : (Jvm.Cond.constantLong "OrderMoneyModel" (50 : Nat) (-1 : Int64)) ∈ lw_g := List.mem_filter.mpr ⟨List.mem_append_right _ (List.mem_append_right _ (List.mem_append_left _ (List.mem_of_getElem? (i := 170) rfl))), rfl⟩
theorem wd_411 : (Jvm.Cond.fieldLink "OrderMoneyModel" (106 : Nat) "OrderMoneyModel" "orders" "I") ∈ lw_g := List.mem_filter.mpr ⟨List.mem_append_right _ (List.mem_append_right _ (List.mem_append_left _ (List.mem_of_getElem? (i := 171) rfl))), rfl⟩
theorem wd_412 : (Jvm.Cond.fieldLink "OrderMoneyModel" (7 : Nat) "OrderMoneyModel" "states" "[I") ∈ lw_g := List.mem_filter.mpr ⟨List.mem_append_right _ (List.mem_append_right _ (List.mem_append_left _ (List.mem_of_getElem? (i := 172) rfl))), rfl⟩
theorem wd_413 : (Jvm.Cond.fieldLink "OrderMoneyModel" (13 : Nat) "OrderMoneyModel" "cents" "[J") ∈ lw_g := List.mem_filter.mpr ⟨List.mem_append_right _ (List.mem_append_right _ (List.mem_append_left _ (List.mem_of_getElem? (i := 173) rfl))), rfl⟩
theorem wd_414 : (Jvm.Cond.fieldLink "OrderMoneyModel" (17 : Nat) "OrderMoneyModel" "untils" "[J") ∈ lw_g := List.mem_filter.mpr ⟨List.mem_append_right _ (List.mem_append_right _ (List.mem_append_left _ (List.mem_of_getElem? (i := 174) rfl))), rfl⟩
theorem wd_415 : (Jvm.Cond.fieldLink "OrderMoneyModel" (20 : Nat) "OrderMoneyModel" "currencies" "[I") ∈ lw_g := List.mem_filter.mpr ⟨List.mem_append_right _ (List.mem_append_right _ (List.mem_append_left _ (List.mem_of_getElem? (i := 175) rfl))), rfl⟩
theorem wd_416 : (Jvm.Cond.fieldLink "OrderMoneyModel" (23 : Nat) "OrderMoneyModel" "proofs" "[I") ∈ lw_g := List.mem_filter.mpr ⟨List.mem_append_right _ (List.mem_append_right _ (List.mem_append_left _ (List.mem_of_getElem? (i := 176) rfl))), rfl⟩
theorem wd_417 : (Jvm.Cond.fieldLink "OrderMoneyModel" (26 : Nat) "OrderMoneyModel" "inAt" "[I") ∈ lw_g := List.mem_filter.mpr ⟨List.mem_append_right _ (List.mem_append_right _ (List.mem_append_left _ (List.mem_of_getElem? (i := 177) rfl))), rfl⟩
theorem wd_418 : (Jvm.Cond.fieldLink "OrderMoneyModel" (29 : Nat) "OrderMoneyModel" "outAt" "[I") ∈ lw_g := List.mem_filter.mpr ⟨List.mem_append_right _ (List.mem_append_right _ (List.mem_append_left _ (List.mem_of_getElem? (i := 178) rfl))), rfl⟩
theorem wd_419 : (Jvm.Cond.fieldLink "OrderMoneyModel" (32 : Nat) "OrderMoneyModel" "lists" "[I") ∈ lw_g := List.mem_filter.mpr ⟨List.mem_append_right _ (List.mem_append_right _ (List.mem_append_left _ (List.mem_of_getElem? (i := 179) rfl))), rfl⟩
theorem wd_420 : (Jvm.Cond.fieldLink "OrderMoneyModel" (35 : Nat) "OrderMoneyModel" "barredAt" "[J") ∈ lw_g := List.mem_filter.mpr ⟨List.mem_append_right _ (List.mem_append_right _ (List.mem_append_left _ (List.mem_of_getElem? (i := 180) rfl))), rfl⟩
theorem wd_421 : (Jvm.Cond.fieldLink "OrderMoneyModel" (38 : Nat) "OrderMoneyModel" "wasBarred" "[Z") ∈ lw_g := List.mem_filter.mpr ⟨List.mem_append_right _ (List.mem_append_right _ (List.mem_append_left _ (List.mem_of_getElem? (i := 181) rfl))), rfl⟩
theorem wd_422 : (Jvm.Cond.fieldLink "OrderMoneyModel" (44 : Nat) "OrderMoneyModel" "rates" "[J") ∈ lw_g := List.mem_filter.mpr ⟨List.mem_append_right _ (List.mem_append_right _ (List.mem_append_left _ (List.mem_of_getElem? (i := 182) rfl))), rfl⟩
theorem wd_423 : (Jvm.Cond.fieldLink "OrderMoneyModel" (47 : Nat) "OrderMoneyModel" "tills" "[J") ∈ lw_g := List.mem_filter.mpr ⟨List.mem_append_right _ (List.mem_append_right _ (List.mem_append_left _ (List.mem_of_getElem? (i := 183) rfl))), rfl⟩
theorem wd_424 : (Jvm.Cond.fieldLink "OrderMoneyModel" (52 : Nat) "OrderMoneyModel" "limits" "[J") ∈ lw_g := List.mem_filter.mpr ⟨List.mem_append_right _ (List.mem_append_right _ (List.mem_append_left _ (List.mem_of_getElem? (i := 184) rfl))), rfl⟩
theorem wd_425 : (Jvm.Cond.fieldLink "OrderMoneyModel" (55 : Nat) "OrderMoneyModel" "off" "[Z") ∈ lw_g := List.mem_filter.mpr ⟨List.mem_append_right _ (List.mem_append_right _ (List.mem_append_left _ (List.mem_of_getElem? (i := 185) rfl))), rfl⟩
theorem wd_426 : (Jvm.Cond.fieldLink "OrderMoneyModel" (58 : Nat) "OrderMoneyModel" "failing" "[I") ∈ lw_g := List.mem_filter.mpr ⟨List.mem_append_right _ (List.mem_append_right _ (List.mem_append_left _ (List.mem_of_getElem? (i := 186) rfl))), rfl⟩
theorem wd_427 : (Jvm.Cond.fieldLink "OrderMoneyModel" (61 : Nat) "OrderMoneyModel" "days" "[J") ∈ lw_g := List.mem_filter.mpr ⟨List.mem_append_right _ (List.mem_append_right _ (List.mem_append_left _ (List.mem_of_getElem? (i := 187) rfl))), rfl⟩
theorem wd_428 : (Jvm.Cond.fieldLink "OrderMoneyModel" (64 : Nat) "OrderMoneyModel" "paid" "[J") ∈ lw_g := List.mem_filter.mpr ⟨List.mem_append_right _ (List.mem_append_right _ (List.mem_append_left _ (List.mem_of_getElem? (i := 188) rfl))), rfl⟩
theorem wd_429 : (Jvm.Cond.fieldLink "OrderMoneyModel" (67 : Nat) "OrderMoneyModel" "known" "[I") ∈ lw_g := List.mem_filter.mpr ⟨List.mem_append_right _ (List.mem_append_right _ (List.mem_append_left _ (List.mem_of_getElem? (i := 189) rfl))), rfl⟩
theorem wd_430 : (Jvm.Cond.fieldLink "OrderMoneyModel" (70 : Nat) "OrderMoneyModel" "knownProofs" "[I") ∈ lw_g := List.mem_filter.mpr ⟨List.mem_append_right _ (List.mem_append_right _ (List.mem_append_left _ (List.mem_of_getElem? (i := 190) rfl))), rfl⟩
theorem wd_431 : (Jvm.Cond.fieldLink "OrderMoneyModel" (142 : Nat) "OrderMoneyModel" "asked" "I") ∈ lw_g := List.mem_filter.mpr ⟨List.mem_append_right _ (List.mem_append_right _ (List.mem_append_left _ (List.mem_of_getElem? (i := 191) rfl))), rfl⟩
theorem wd_432 : (Jvm.Cond.fieldLink "OrderMoneyModel" (145 : Nat) "OrderMoneyModel" "served" "I") ∈ lw_g := List.mem_filter.mpr ⟨List.mem_append_right _ (List.mem_append_right _ (List.mem_append_left _ (List.mem_of_getElem? (i := 192) rfl))), rfl⟩
theorem wd_433 : (Jvm.Cond.fieldLink "OrderMoneyModel" (73 : Nat) "OrderMoneyModel" "askOffice" "[I") ∈ lw_g := List.mem_filter.mpr ⟨List.mem_append_right _ (List.mem_append_right _ (List.mem_append_left _ (List.mem_of_getElem? (i := 193) rfl))), rfl⟩
theorem wd_434 : (Jvm.Cond.fieldLink "OrderMoneyModel" (76 : Nat) "OrderMoneyModel" "askNumber" "[J") ∈ lw_g := List.mem_filter.mpr ⟨List.mem_append_right _ (List.mem_append_right _ (List.mem_append_left _ (List.mem_of_getElem? (i := 194) rfl))), rfl⟩
theorem wd_435 : (Jvm.Cond.fieldLink "OrderMoneyModel" (79 : Nat) "OrderMoneyModel" "askProof" "[I") ∈ lw_g := List.mem_filter.mpr ⟨List.mem_append_right _ (List.mem_append_right _ (List.mem_append_left _ (List.mem_of_getElem? (i := 195) rfl))), rfl⟩
theorem wd_436 : (Jvm.Cond.fieldLink "OrderMoneyModel" (82 : Nat) "OrderMoneyModel" "askTime" "[J") ∈ lw_g := List.mem_filter.mpr ⟨List.mem_append_right _ (List.mem_append_right _ (List.mem_append_left _ (List.mem_of_getElem? (i := 196) rfl))), rfl⟩
theorem wd_437 : (Jvm.Cond.fieldLink "OrderMoneyModel" (85 : Nat) "OrderMoneyModel" "askAnswer" "[I") ∈ lw_g := List.mem_filter.mpr ⟨List.mem_append_right _ (List.mem_append_right _ (List.mem_append_left _ (List.mem_of_getElem? (i := 197) rfl))), rfl⟩
theorem wd_438 : (Jvm.Cond.fieldLink "OrderMoneyModel" (167 : Nat) "OrderMoneyModel" "waiting" "I") ∈ lw_g := List.mem_filter.mpr ⟨List.mem_append_right _ (List.mem_append_right _ (List.mem_append_left _ (List.mem_of_getElem? (i := 198) rfl))), rfl⟩
theorem wd_439 : (Jvm.Cond.fieldLink "OrderMoneyModel" (88 : Nat) "OrderMoneyModel" "sumOffice" "[I") ∈ lw_g := List.mem_filter.mpr ⟨List.mem_append_right _ (List.mem_append_right _ (List.mem_append_left _ (List.mem_of_getElem? (i := 199) rfl))), rfl⟩
theorem wd_440 : (Jvm.Cond.fieldLink "OrderMoneyModel" (91 : Nat) "OrderMoneyModel" "sumCents" "[J") ∈ lw_g := List.mem_filter.mpr ⟨List.mem_append_right _ (List.mem_append_right _ (List.mem_append_left _ (List.mem_of_getElem? (i := 200) rfl))), rfl⟩
theorem wd_441 : (Jvm.Cond.fieldLink "OrderMoneyModel" (94 : Nat) "OrderMoneyModel" "sumDay" "[I") ∈ lw_g := List.mem_filter.mpr ⟨List.mem_append_right _ (List.mem_append_right _ (List.mem_append_left _ (List.mem_of_getElem? (i := 201) rfl))), rfl⟩
theorem wd_442 : (Jvm.Cond.fieldLink "OrderMoneyModel" (97 : Nat) "OrderMoneyModel" "totals" "[J") ∈ lw_g := List.mem_filter.mpr ⟨List.mem_append_right _ (List.mem_append_right _ (List.mem_append_left _ (List.mem_of_getElem? (i := 202) rfl))), rfl⟩
theorem wd_508 : (Jvm.Cond.arrayClass Jvm.ClassFile.FieldType.int) ∈ lw_g := List.mem_filter.mpr ⟨List.mem_append_right _ (List.mem_append_right _ (List.mem_append_right _ (List.mem_of_getElem? (i := 28) rfl))), rfl⟩
theorem wd_509 : (Jvm.Cond.arrayClass Jvm.ClassFile.FieldType.boolean) ∈ lw_g := List.mem_filter.mpr ⟨List.mem_append_right _ (List.mem_append_right _ (List.mem_append_right _ (List.mem_of_getElem? (i := 29) rfl))), rfl⟩
theorem wd_513 : (Jvm.Cond.code ({ cls := "OrderMoneyModel", name := "order", desc := "(IJJII)I" } : Jvm.MethodName) prog_8_method_8_code (8 : Nat) (Option.some Jvm.ClassFile.FieldType.int)) ∈ lw_g := List.mem_filter.mpr ⟨List.mem_append_right _ (List.mem_append_right _ (List.mem_append_right _ (List.mem_of_getElem? (i := 33) rfl))), rfl⟩
theorem wd_514 : (Jvm.Cond.methodLink "OrderMoneyModel" (114 : Nat) ({ cls := "OrderMoneyModel", name := "isOffice", desc := "(I)Z" } : Jvm.MethodName)) ∈ lw_g := List.mem_filter.mpr ⟨List.mem_append_right _ (List.mem_append_right _ (List.mem_append_right _ (List.mem_of_getElem? (i := 34) rfl))), rfl⟩
theorem wd_515 : (Jvm.Cond.static ({ cls := "OrderMoneyModel", name := "isOffice", desc := "(I)Z" } : Jvm.MethodName)) ∈ lw_g := List.mem_filter.mpr ⟨List.mem_append_right _ (List.mem_append_right _ (List.mem_append_right _ (List.mem_of_getElem? (i := 35) rfl))), rfl⟩
theorem wd_516 : (Jvm.Cond.code ({ cls := "OrderMoneyModel", name := "isOffice", desc := "(I)Z" } : Jvm.MethodName) prog_8_method_4_code (1 : Nat) (Option.some Jvm.ClassFile.FieldType.boolean)) ∈ lw_g := List.mem_filter.mpr ⟨List.mem_append_right _ (List.mem_append_right _ (List.mem_append_right _ (List.mem_of_getElem? (i := 36) rfl))), rfl⟩
theorem wd_517 : (Jvm.Cond.constantLong "OrderMoneyModel" (100 : Nat) (7 : Int64)) ∈ lw_g := List.mem_filter.mpr ⟨List.mem_append_right _ (List.mem_append_right _ (List.mem_append_right _ (List.mem_of_getElem? (i := 37) rfl))), rfl⟩
theorem wd_518 : (Jvm.Cond.methodLink "OrderMoneyModel" (102 : Nat) ({ cls := "OrderMoneyModel", name := "in", desc := "(JJJ)Z" } : Jvm.MethodName)) ∈ lw_g := List.mem_filter.mpr ⟨List.mem_append_right _ (List.mem_append_right _ (List.mem_append_right _ (List.mem_of_getElem? (i := 38) rfl))), rfl⟩
theorem wd_519 : (Jvm.Cond.static ({ cls := "OrderMoneyModel", name := "in", desc := "(JJJ)Z" } : Jvm.MethodName)) ∈ lw_g := List.mem_filter.mpr ⟨List.mem_append_right _ (List.mem_append_right _ (List.mem_append_right _ (List.mem_of_getElem? (i := 39) rfl))), rfl⟩
theorem wd_520 : (Jvm.Cond.code ({ cls := "OrderMoneyModel", name := "in", desc := "(JJJ)Z" } : Jvm.MethodName) prog_8_method_3_code (6 : Nat) (Option.some Jvm.ClassFile.FieldType.boolean)) ∈ lw_g := List.mem_filter.mpr ⟨List.mem_append_right _ (List.mem_append_right _ (List.mem_append_right _ (List.mem_of_getElem? (i := 40) rfl))), rfl⟩
theorem wd_521 : (Jvm.Cond.constantLong "OrderMoneyModel" (118 : Nat) (500000 : Int64)) ∈ lw_g := List.mem_filter.mpr ⟨List.mem_append_right _ (List.mem_append_right _ (List.mem_append_right _ (List.mem_of_getElem? (i := 41) rfl))), rfl⟩
theorem wd_522 : (Jvm.Cond.constantLong "OrderMoneyModel" (120 : Nat) (3 : Int64)) ∈ lw_g := List.mem_filter.mpr ⟨List.mem_append_right _ (List.mem_append_right _ (List.mem_append_right _ (List.mem_of_getElem? (i := 42) rfl))), rfl⟩
theorem wd_523 : (Jvm.Cond.methodLink "OrderMoneyModel" (122 : Nat) ({ cls := "OrderMoneyModel", name := "add", desc := "(IJJII)I" } : Jvm.MethodName)) ∈ lw_g := List.mem_filter.mpr ⟨List.mem_append_right _ (List.mem_append_right _ (List.mem_append_right _ (List.mem_of_getElem? (i := 43) rfl))), rfl⟩
theorem wd_525 : (Jvm.Cond.instanceMethod ({ cls := "OrderMoneyModel", name := "add", desc := "(IJJII)I" } : Jvm.MethodName)) ∈ lw_g := List.mem_filter.mpr ⟨List.mem_append_right _ (List.mem_append_right _ (List.mem_append_right _ (List.mem_of_getElem? (i := 45) rfl))), rfl⟩
theorem wd_526 : (Jvm.Cond.code ({ cls := "OrderMoneyModel", name := "add", desc := "(IJJII)I" } : Jvm.MethodName) prog_8_method_7_code (8 : Nat) (Option.some Jvm.ClassFile.FieldType.int)) ∈ lw_g := List.mem_filter.mpr ⟨List.mem_append_right _ (List.mem_append_right _ (List.mem_append_right _ (List.mem_of_getElem? (i := 46) rfl))), rfl⟩
theorem wd_527 : (Jvm.Cond.methodLink "OrderMoneyModel" (110 : Nat) ({ cls := "OrderMoneyModel", name := "numberOf", desc := "(I)I" } : Jvm.MethodName)) ∈ lw_g := List.mem_filter.mpr ⟨List.mem_append_right _ (List.mem_append_right _ (List.mem_append_right _ (List.mem_of_getElem? (i := 47) rfl))), rfl⟩
theorem wd_528 : (Jvm.Cond.static ({ cls := "OrderMoneyModel", name := "numberOf", desc := "(I)I" } : Jvm.MethodName)) ∈ lw_g := List.mem_filter.mpr ⟨List.mem_append_right _ (List.mem_append_right _ (List.mem_append_right _ (List.mem_of_getElem? (i := 48) rfl))), rfl⟩
theorem wd_529 : (Jvm.Cond.code ({ cls := "OrderMoneyModel", name := "numberOf", desc := "(I)I" } : Jvm.MethodName) prog_8_method_5_code (4 : Nat) (Option.some Jvm.ClassFile.FieldType.int)) ∈ lw_g := List.mem_filter.mpr ⟨List.mem_append_right _ (List.mem_append_right _ (List.mem_append_right _ (List.mem_of_getElem? (i := 49) rfl))), rfl⟩
theorem wd_531 : (Jvm.Cond.instanceMethod ({ cls := "OrderMoneyModel", name := "pay", desc := "(IJIJ)I" } : Jvm.MethodName)) ∈ lw_g := List.mem_filter.mpr ⟨List.mem_append_right _ (List.mem_append_right _ (List.mem_append_right _ (List.mem_of_getElem? (i := 51) rfl))), rfl⟩
theorem wd_532 : (Jvm.Cond.selects "OrderMoneyModel" ({ cls := "OrderMoneyModel", name := "pay", desc := "(IJIJ)I" } : Jvm.MethodName) ({ cls := "OrderMoneyModel", name := "pay", desc := "(IJIJ)I" } : Jvm.MethodName)) ∈ lw_g := List.mem_filter.mpr ⟨List.mem_append_right _ (List.mem_append_right _ (List.mem_append_right _ (List.mem_of_getElem? (i := 52) rfl))), rfl⟩
theorem wd_533 : (Jvm.Cond.code ({ cls := "OrderMoneyModel", name := "pay", desc := "(IJIJ)I" } : Jvm.MethodName) prog_8_method_11_code (17 : Nat) (Option.some Jvm.ClassFile.FieldType.int)) ∈ lw_g := List.mem_filter.mpr ⟨List.mem_append_right _ (List.mem_append_right _ (List.mem_append_right _ (List.mem_of_getElem? (i := 53) rfl))), rfl⟩
theorem wd_534 : (Jvm.Cond.methodLink "OrderMoneyModel" (126 : Nat) ({ cls := "OrderMoneyModel", name := "find", desc := "(J)I" } : Jvm.MethodName)) ∈ lw_g := List.mem_filter.mpr ⟨List.mem_append_right _ (List.mem_append_right _ (List.mem_append_right _ (List.mem_of_getElem? (i := 54) rfl))), rfl⟩
theorem wd_536 : (Jvm.Cond.instanceMethod ({ cls := "OrderMoneyModel", name := "find", desc := "(J)I" } : Jvm.MethodName)) ∈ lw_g := List.mem_filter.mpr ⟨List.mem_append_right _ (List.mem_append_right _ (List.mem_append_right _ (List.mem_of_getElem? (i := 56) rfl))), rfl⟩
theorem wd_537 : (Jvm.Cond.code ({ cls := "OrderMoneyModel", name := "find", desc := "(J)I" } : Jvm.MethodName) prog_8_method_6_code (4 : Nat) (Option.some Jvm.ClassFile.FieldType.int)) ∈ lw_g := List.mem_filter.mpr ⟨List.mem_append_right _ (List.mem_append_right _ (List.mem_append_right _ (List.mem_of_getElem? (i := 57) rfl))), rfl⟩
theorem wd_538 : (Jvm.Cond.methodLink "OrderMoneyModel" (130 : Nat) ({ cls := "OrderMoneyModel", name := "failsNow", desc := "(II)Z" } : Jvm.MethodName)) ∈ lw_g := List.mem_filter.mpr ⟨List.mem_append_right _ (List.mem_append_right _ (List.mem_append_right _ (List.mem_of_getElem? (i := 58) rfl))), rfl⟩
theorem wd_540 : (Jvm.Cond.instanceMethod ({ cls := "OrderMoneyModel", name := "failsNow", desc := "(II)Z" } : Jvm.MethodName)) ∈ lw_g := List.mem_filter.mpr ⟨List.mem_append_right _ (List.mem_append_right _ (List.mem_append_right _ (List.mem_of_getElem? (i := 60) rfl))), rfl⟩
theorem wd_541 : (Jvm.Cond.code ({ cls := "OrderMoneyModel", name := "failsNow", desc := "(II)Z" } : Jvm.MethodName) prog_8_method_10_code (4 : Nat) (Option.some Jvm.ClassFile.FieldType.boolean)) ∈ lw_g := List.mem_filter.mpr ⟨List.mem_append_right _ (List.mem_append_right _ (List.mem_append_right _ (List.mem_of_getElem? (i := 61) rfl))), rfl⟩
theorem wd_542 : (Jvm.Cond.constantLong "OrderMoneyModel" (134 : Nat) (86400 : Int64)) ∈ lw_g := List.mem_filter.mpr ⟨List.mem_append_right _ (List.mem_append_right _ (List.mem_append_right _ (List.mem_of_getElem? (i := 62) rfl))), rfl⟩
theorem wd_543 : (Jvm.Cond.methodLink "OrderMoneyModel" (136 : Nat) ({ cls := "OrderMoneyModel", name := "sumOf", desc := "(I)J" } : Jvm.MethodName)) ∈ lw_g := List.mem_filter.mpr ⟨List.mem_append_right _ (List.mem_append_right _ (List.mem_append_right _ (List.mem_of_getElem? (i := 63) rfl))), rfl⟩
theorem wd_545 : (Jvm.Cond.instanceMethod ({ cls := "OrderMoneyModel", name := "sumOf", desc := "(I)J" } : Jvm.MethodName)) ∈ lw_g := List.mem_filter.mpr ⟨List.mem_append_right _ (List.mem_append_right _ (List.mem_append_right _ (List.mem_of_getElem? (i := 65) rfl))), rfl⟩
theorem wd_546 : (Jvm.Cond.code ({ cls := "OrderMoneyModel", name := "sumOf", desc := "(I)J" } : Jvm.MethodName) prog_8_method_9_code (2 : Nat) (Option.some Jvm.ClassFile.FieldType.long)) ∈ lw_g := List.mem_filter.mpr ⟨List.mem_append_right _ (List.mem_append_right _ (List.mem_append_right _ (List.mem_of_getElem? (i := 66) rfl))), rfl⟩
theorem wd_550 : (Jvm.Cond.code ({ cls := "OrderMoneyModel", name := "fails", desc := "(II)I" } : Jvm.MethodName) prog_8_method_12_code (4 : Nat) (Option.some Jvm.ClassFile.FieldType.int)) ∈ lw_g := List.mem_filter.mpr ⟨List.mem_append_right _ (List.mem_append_right _ (List.mem_append_right _ (List.mem_of_getElem? (i := 70) rfl))), rfl⟩
theorem wd_551 : (Jvm.Cond.constantLong "OrderMoneyModel" (140 : Nat) (5 : Int64)) ∈ lw_g := List.mem_filter.mpr ⟨List.mem_append_right _ (List.mem_append_right _ (List.mem_append_right _ (List.mem_of_getElem? (i := 71) rfl))), rfl⟩
theorem wd_555 : (Jvm.Cond.code ({ cls := "OrderMoneyModel", name := "ask", desc := "(IJIJ)I" } : Jvm.MethodName) prog_8_method_13_code (7 : Nat) (Option.some Jvm.ClassFile.FieldType.int)) ∈ lw_g := List.mem_filter.mpr ⟨List.mem_append_right _ (List.mem_append_right _ (List.mem_append_right _ (List.mem_of_getElem? (i := 75) rfl))), rfl⟩
theorem wd_559 : (Jvm.Cond.code ({ cls := "OrderMoneyModel", name := "serve", desc := "(I)I" } : Jvm.MethodName) prog_8_method_14_code (4 : Nat) (Option.some Jvm.ClassFile.FieldType.int)) ∈ lw_g := List.mem_filter.mpr ⟨List.mem_append_right _ (List.mem_append_right _ (List.mem_append_right _ (List.mem_of_getElem? (i := 79) rfl))), rfl⟩
theorem wd_560 : (Jvm.Cond.methodLink "OrderMoneyModel" (148 : Nat) ({ cls := "OrderMoneyModel", name := "pay", desc := "(IJIJ)I" } : Jvm.MethodName)) ∈ lw_g := List.mem_filter.mpr ⟨List.mem_append_right _ (List.mem_append_right _ (List.mem_append_right _ (List.mem_of_getElem? (i := 80) rfl))), rfl⟩
theorem wd_564 : (Jvm.Cond.code ({ cls := "OrderMoneyModel", name := "answer", desc := "(I)I" } : Jvm.MethodName) prog_8_method_15_code (2 : Nat) (Option.some Jvm.ClassFile.FieldType.int)) ∈ lw_g := List.mem_filter.mpr ⟨List.mem_append_right _ (List.mem_append_right _ (List.mem_append_right _ (List.mem_of_getElem? (i := 84) rfl))), rfl⟩
theorem wd_568 : (Jvm.Cond.code ({ cls := "OrderMoneyModel", name := "bar", desc := "(JJ)I" } : Jvm.MethodName) prog_8_method_16_code (6 : Nat) (Option.some Jvm.ClassFile.FieldType.int)) ∈ lw_g := List.mem_filter.mpr ⟨List.mem_append_right _ (List.mem_append_right _ (List.mem_append_right _ (List.mem_of_getElem? (i := 88) rfl))), rfl⟩
theorem wd_572 : (Jvm.Cond.code ({ cls := "OrderMoneyModel", name := "since", desc := "(J)J" } : Jvm.MethodName) prog_8_method_17_code (4 : Nat) (Option.some Jvm.ClassFile.FieldType.long)) ∈ lw_g := List.mem_filter.mpr ⟨List.mem_append_right _ (List.mem_append_right _ (List.mem_append_right _ (List.mem_of_getElem? (i := 92) rfl))), rfl⟩
theorem wd_573 : (Jvm.Cond.constantLong "OrderMoneyModel" (152 : Nat) (-101 : Int64)) ∈ lw_g := List.mem_filter.mpr ⟨List.mem_append_right _ (List.mem_append_right _ (List.mem_append_right _ (List.mem_of_getElem? (i := 93) rfl))), rfl⟩
theorem wd_577 : (Jvm.Cond.code ({ cls := "OrderMoneyModel", name := "replace", desc := "(J)I" } : Jvm.MethodName) prog_8_method_18_code (4 : Nat) (Option.some Jvm.ClassFile.FieldType.int)) ∈ lw_g := List.mem_filter.mpr ⟨List.mem_append_right _ (List.mem_append_right _ (List.mem_append_right _ (List.mem_of_getElem? (i := 97) rfl))), rfl⟩
theorem wd_581 : (Jvm.Cond.code ({ cls := "OrderMoneyModel", name := "tick", desc := "(J)I" } : Jvm.MethodName) prog_8_method_19_code (6 : Nat) (Option.some Jvm.ClassFile.FieldType.int)) ∈ lw_g := List.mem_filter.mpr ⟨List.mem_append_right _ (List.mem_append_right _ (List.mem_append_right _ (List.mem_of_getElem? (i := 101) rfl))), rfl⟩
theorem wd_585 : (Jvm.Cond.code ({ cls := "OrderMoneyModel", name := "cut", desc := "(IZ)I" } : Jvm.MethodName) prog_8_method_21_code (4 : Nat) (Option.some Jvm.ClassFile.FieldType.int)) ∈ lw_g := List.mem_filter.mpr ⟨List.mem_append_right _ (List.mem_append_right _ (List.mem_append_right _ (List.mem_of_getElem? (i := 105) rfl))), rfl⟩
theorem wd_589 : (Jvm.Cond.code ({ cls := "OrderMoneyModel", name := "list", desc := "(IJ)I" } : Jvm.MethodName) prog_8_method_22_code (5 : Nat) (Option.some Jvm.ClassFile.FieldType.int)) ∈ lw_g := List.mem_filter.mpr ⟨List.mem_append_right _ (List.mem_append_right _ (List.mem_append_right _ (List.mem_of_getElem? (i := 109) rfl))), rfl⟩
theorem wd_590 : (Jvm.Cond.methodLink "OrderMoneyModel" (154 : Nat) ({ cls := "OrderMoneyModel", name := "listed", desc := "(I)I" } : Jvm.MethodName)) ∈ lw_g := List.mem_filter.mpr ⟨List.mem_append_right _ (List.mem_append_right _ (List.mem_append_right _ (List.mem_of_getElem? (i := 110) rfl))), rfl⟩
theorem wd_592 : (Jvm.Cond.instanceMethod ({ cls := "OrderMoneyModel", name := "listed", desc := "(I)I" } : Jvm.MethodName)) ∈ lw_g := List.mem_filter.mpr ⟨List.mem_append_right _ (List.mem_append_right _ (List.mem_append_right _ (List.mem_of_getElem? (i := 112) rfl))), rfl⟩
theorem wd_593 : (Jvm.Cond.code ({ cls := "OrderMoneyModel", name := "listed", desc := "(I)I" } : Jvm.MethodName) prog_8_method_20_code (4 : Nat) (Option.some Jvm.ClassFile.FieldType.int)) ∈ lw_g := List.mem_filter.mpr ⟨List.mem_append_right _ (List.mem_append_right _ (List.mem_append_right _ (List.mem_of_getElem? (i := 113) rfl))), rfl⟩
theorem wd_597 : (Jvm.Cond.code ({ cls := "OrderMoneyModel", name := "set", desc := "(IIJ)I" } : Jvm.MethodName) prog_8_method_23_code (5 : Nat) (Option.some Jvm.ClassFile.FieldType.int)) ∈ lw_g := List.mem_filter.mpr ⟨List.mem_append_right _ (List.mem_append_right _ (List.mem_append_right _ (List.mem_of_getElem? (i := 117) rfl))), rfl⟩
theorem wd_598 : (Jvm.Cond.constantLong "OrderMoneyModel" (157 : Nat) (2 : Int64)) ∈ lw_g := List.mem_filter.mpr ⟨List.mem_append_right _ (List.mem_append_right _ (List.mem_append_right _ (List.mem_of_getElem? (i := 118) rfl))), rfl⟩
theorem wd_599 : (Jvm.Cond.constantLong "OrderMoneyModel" (159 : Nat) (-1000000000 : Int64)) ∈ lw_g := List.mem_filter.mpr ⟨List.mem_append_right _ (List.mem_append_right _ (List.mem_append_right _ (List.mem_of_getElem? (i := 119) rfl))), rfl⟩
theorem wd_600 : (Jvm.Cond.constantLong "OrderMoneyModel" (161 : Nat) (100000 : Int64)) ∈ lw_g := List.mem_filter.mpr ⟨List.mem_append_right _ (List.mem_append_right _ (List.mem_append_right _ (List.mem_of_getElem? (i := 120) rfl))), rfl⟩
theorem wd_601 : (Jvm.Cond.constantLong "OrderMoneyModel" (163 : Nat) (1000000000 : Int64)) ∈ lw_g := List.mem_filter.mpr ⟨List.mem_append_right _ (List.mem_append_right _ (List.mem_append_right _ (List.mem_of_getElem? (i := 121) rfl))), rfl⟩
theorem wd_605 : (Jvm.Cond.code ({ cls := "OrderMoneyModel", name := "collect", desc := "(IJI)I" } : Jvm.MethodName) prog_8_method_24_code (5 : Nat) (Option.some Jvm.ClassFile.FieldType.int)) ∈ lw_g := List.mem_filter.mpr ⟨List.mem_append_right _ (List.mem_append_right _ (List.mem_append_right _ (List.mem_of_getElem? (i := 125) rfl))), rfl⟩
theorem wd_606 : (Jvm.Cond.constantLong "OrderMoneyModel" (165 : Nat) (9999 : Int64)) ∈ lw_g := List.mem_filter.mpr ⟨List.mem_append_right _ (List.mem_append_right _ (List.mem_append_right _ (List.mem_of_getElem? (i := 126) rfl))), rfl⟩
theorem wd_610 : (Jvm.Cond.code ({ cls := "OrderMoneyModel", name := "pass", desc := "(I)I" } : Jvm.MethodName) prog_8_method_25_code (5 : Nat) (Option.some Jvm.ClassFile.FieldType.int)) ∈ lw_g := List.mem_filter.mpr ⟨List.mem_append_right _ (List.mem_append_right _ (List.mem_append_right _ (List.mem_of_getElem? (i := 130) rfl))), rfl⟩
theorem wd_614 : (Jvm.Cond.code ({ cls := "OrderMoneyModel", name := "about", desc := "(JI)J" } : Jvm.MethodName) prog_8_method_26_code (5 : Nat) (Option.some Jvm.ClassFile.FieldType.long)) ∈ lw_g := List.mem_filter.mpr ⟨List.mem_append_right _ (List.mem_append_right _ (List.mem_append_right _ (List.mem_of_getElem? (i := 134) rfl))), rfl⟩
theorem wd_615 : (Jvm.Cond.constantLong "OrderMoneyModel" (170 : Nat) (-102 : Int64)) ∈ lw_g := List.mem_filter.mpr ⟨List.mem_append_right _ (List.mem_append_right _ (List.mem_append_right _ (List.mem_of_getElem? (i := 135) rfl))), rfl⟩
theorem wd_619 : (Jvm.Cond.code ({ cls := "OrderMoneyModel", name := "till", desc := "(I)J" } : Jvm.MethodName) prog_8_method_27_code (2 : Nat) (Option.some Jvm.ClassFile.FieldType.long)) ∈ lw_g := List.mem_filter.mpr ⟨List.mem_append_right _ (List.mem_append_right _ (List.mem_append_right _ (List.mem_of_getElem? (i := 139) rfl))), rfl⟩
theorem wd_623 : (Jvm.Cond.code ({ cls := "OrderMoneyModel", name := "all", desc := "(I)J" } : Jvm.MethodName) prog_8_method_28_code (2 : Nat) (Option.some Jvm.ClassFile.FieldType.long)) ∈ lw_g := List.mem_filter.mpr ⟨List.mem_append_right _ (List.mem_append_right _ (List.mem_append_right _ (List.mem_of_getElem? (i := 143) rfl))), rfl⟩
theorem wd_624 : (Jvm.Cond.constantLong "OrderMoneyModel" (172 : Nat) (8 : Int64)) ∈ lw_g := List.mem_filter.mpr ⟨List.mem_append_right _ (List.mem_append_right _ (List.mem_append_right _ (List.mem_of_getElem? (i := 144) rfl))), rfl⟩
theorem wq_0 : Cond.selects "OrderMoney" ⟨"OrderMoney", "officeAt", "(I)LOrderMoney$Office;"⟩ ⟨"OrderMoney", "officeAt", "(I)LOrderMoney$Office;"⟩ ∈ lw_g := List.mem_filter.mpr ⟨List.mem_append_left _ (List.mem_map.mpr ⟨(⟨"OrderMoney", "officeAt", "(I)LOrderMoney$Office;"⟩, 10), by decide +kernel, rfl⟩), rfl⟩
theorem wq_1 : Cond.selects "OrderMoney" ⟨"OrderMoney", "currencyAt", "(I)LOrderMoney$Currency;"⟩ ⟨"OrderMoney", "currencyAt", "(I)LOrderMoney$Currency;"⟩ ∈ lw_g := List.mem_filter.mpr ⟨List.mem_append_left _ (List.mem_map.mpr ⟨(⟨"OrderMoney", "currencyAt", "(I)LOrderMoney$Currency;"⟩, 10), by decide +kernel, rfl⟩), rfl⟩
theorem wq_2 : Cond.selects "OrderMoney" ⟨"OrderMoney", "addOrder", "(LOrderMoney$Office;JJLOrderMoney$Currency;I)I"⟩ ⟨"OrderMoney", "addOrder", "(LOrderMoney$Office;JJLOrderMoney$Currency;I)I"⟩ ∈ lw_g := List.mem_filter.mpr ⟨List.mem_append_left _ (List.mem_map.mpr ⟨(⟨"OrderMoney", "addOrder", "(LOrderMoney$Office;JJLOrderMoney$Currency;I)I"⟩, 10), by decide +kernel, rfl⟩), rfl⟩
theorem wq_3 : Cond.selects "OrderMoney" ⟨"OrderMoney", "find", "(J)LOrderMoney$Order;"⟩ ⟨"OrderMoney", "find", "(J)LOrderMoney$Order;"⟩ ∈ lw_g := List.mem_filter.mpr ⟨List.mem_append_left _ (List.mem_map.mpr ⟨(⟨"OrderMoney", "find", "(J)LOrderMoney$Order;"⟩, 10), by decide +kernel, rfl⟩), rfl⟩
theorem wq_4 : Cond.selects "OrderMoney" ⟨"OrderMoney", "goThroughSteps", "(LOrderMoney$Office;LOrderMoney$Order;IJ)I"⟩ ⟨"OrderMoney", "goThroughSteps", "(LOrderMoney$Office;LOrderMoney$Order;IJ)I"⟩ ∈ lw_g := List.mem_filter.mpr ⟨List.mem_append_left _ (List.mem_map.mpr ⟨(⟨"OrderMoney", "goThroughSteps", "(LOrderMoney$Office;LOrderMoney$Order;IJ)I"⟩, 10), by decide +kernel, rfl⟩), rfl⟩
theorem wq_5 : Cond.selects "OrderMoney" ⟨"OrderMoney", "takeStep", "(ILOrderMoney$Office;LOrderMoney$Order;IJ)I"⟩ ⟨"OrderMoney", "takeStep", "(ILOrderMoney$Office;LOrderMoney$Order;IJ)I"⟩ ∈ lw_g := List.mem_filter.mpr ⟨List.mem_append_left _ (List.mem_map.mpr ⟨(⟨"OrderMoney", "takeStep", "(ILOrderMoney$Office;LOrderMoney$Order;IJ)I"⟩, 10), by decide +kernel, rfl⟩), rfl⟩
theorem wq_6 : Cond.selects "OrderMoney" ⟨"OrderMoney", "writePaid", "(LOrderMoney$Office;LOrderMoney$Order;J)V"⟩ ⟨"OrderMoney", "writePaid", "(LOrderMoney$Office;LOrderMoney$Order;J)V"⟩ ∈ lw_g := List.mem_filter.mpr ⟨List.mem_append_left _ (List.mem_map.mpr ⟨(⟨"OrderMoney", "writePaid", "(LOrderMoney$Office;LOrderMoney$Order;J)V"⟩, 10), by decide +kernel, rfl⟩), rfl⟩
theorem wq_7 : Cond.selects "OrderMoney" ⟨"OrderMoney", "undoSteps", "(ILOrderMoney$Office;LOrderMoney$Order;)V"⟩ ⟨"OrderMoney", "undoSteps", "(ILOrderMoney$Office;LOrderMoney$Order;)V"⟩ ∈ lw_g := List.mem_filter.mpr ⟨List.mem_append_left _ (List.mem_map.mpr ⟨(⟨"OrderMoney", "undoSteps", "(ILOrderMoney$Office;LOrderMoney$Order;)V"⟩, 10), by decide +kernel, rfl⟩), rfl⟩
theorem wq_8 : Cond.selects "OrderMoney" ⟨"OrderMoney", "emptyListOf", "(LOrderMoney$Office;)V"⟩ ⟨"OrderMoney", "emptyListOf", "(LOrderMoney$Office;)V"⟩ ∈ lw_g := List.mem_filter.mpr ⟨List.mem_append_left _ (List.mem_map.mpr ⟨(⟨"OrderMoney", "emptyListOf", "(LOrderMoney$Office;)V"⟩, 10), by decide +kernel, rfl⟩), rfl⟩
theorem wq_9 : Cond.selects "OrderMoney" ⟨"OrderMoney", "changeTill", "(LOrderMoney$Office;J)I"⟩ ⟨"OrderMoney", "changeTill", "(LOrderMoney$Office;J)I"⟩ ∈ lw_g := List.mem_filter.mpr ⟨List.mem_append_left _ (List.mem_map.mpr ⟨(⟨"OrderMoney", "changeTill", "(LOrderMoney$Office;J)I"⟩, 10), by decide +kernel, rfl⟩), rfl⟩
theorem wq_10 : Cond.selects "OrderMoney" ⟨"OrderMoney", "passOn", "(LOrderMoney$Collected;I)Z"⟩ ⟨"OrderMoney", "passOn", "(LOrderMoney$Collected;I)Z"⟩ ∈ lw_g := List.mem_filter.mpr ⟨List.mem_append_left _ (List.mem_map.mpr ⟨(⟨"OrderMoney", "passOn", "(LOrderMoney$Collected;I)Z"⟩, 10), by decide +kernel, rfl⟩), rfl⟩
theorem wq_11 : Cond.selects "OrderMoney" ⟨"OrderMoney", "sendBack", "(LOrderMoney$Order;)Z"⟩ ⟨"OrderMoney", "sendBack", "(LOrderMoney$Order;)Z"⟩ ∈ lw_g := List.mem_filter.mpr ⟨List.mem_append_left _ (List.mem_map.mpr ⟨(⟨"OrderMoney", "sendBack", "(LOrderMoney$Order;)Z"⟩, 10), by decide +kernel, rfl⟩), rfl⟩
theorem wq_12 : Cond.selects "OrderMoneyModel" ⟨"OrderMoneyModel", "add", "(IJJII)I"⟩ ⟨"OrderMoneyModel", "add", "(IJJII)I"⟩ ∈ lw_g := List.mem_filter.mpr ⟨List.mem_append_left _ (List.mem_map.mpr ⟨(⟨"OrderMoneyModel", "add", "(IJJII)I"⟩, 32), by decide +kernel, rfl⟩), rfl⟩
theorem wq_13 : Cond.selects "OrderMoneyModel" ⟨"OrderMoneyModel", "find", "(J)I"⟩ ⟨"OrderMoneyModel", "find", "(J)I"⟩ ∈ lw_g := List.mem_filter.mpr ⟨List.mem_append_left _ (List.mem_map.mpr ⟨(⟨"OrderMoneyModel", "find", "(J)I"⟩, 32), by decide +kernel, rfl⟩), rfl⟩
theorem wq_14 : Cond.selects "OrderMoneyModel" ⟨"OrderMoneyModel", "failsNow", "(II)Z"⟩ ⟨"OrderMoneyModel", "failsNow", "(II)Z"⟩ ∈ lw_g := List.mem_filter.mpr ⟨List.mem_append_left _ (List.mem_map.mpr ⟨(⟨"OrderMoneyModel", "failsNow", "(II)Z"⟩, 32), by decide +kernel, rfl⟩), rfl⟩
theorem wq_15 : Cond.selects "OrderMoneyModel" ⟨"OrderMoneyModel", "sumOf", "(I)J"⟩ ⟨"OrderMoneyModel", "sumOf", "(I)J"⟩ ∈ lw_g := List.mem_filter.mpr ⟨List.mem_append_left _ (List.mem_map.mpr ⟨(⟨"OrderMoneyModel", "sumOf", "(I)J"⟩, 32), by decide +kernel, rfl⟩), rfl⟩
theorem wq_16 : Cond.selects "OrderMoneyModel" ⟨"OrderMoneyModel", "listed", "(I)I"⟩ ⟨"OrderMoneyModel", "listed", "(I)I"⟩ ∈ lw_g := List.mem_filter.mpr ⟨List.mem_append_left _ (List.mem_map.mpr ⟨(⟨"OrderMoneyModel", "listed", "(I)I"⟩, 32), by decide +kernel, rfl⟩), rfl⟩
theorem gw_Office_init : GoodIn lw_g ws_Office_init := gw_of wd_30
theorem gw_Currency_init : GoodIn lw_g ws_Currency_init := gw_of wd_70
theorem gw_X_init : GoodIn lw_g ws_X_init := gw_of wd_13
theorem gw_X_officeAt : GoodIn lw_g ws_X_officeAt := gw_of wd_117
theorem gw_X_currencyAt : GoodIn lw_g ws_X_currencyAt := gw_of wd_121
theorem gw_X_isOrderable : GoodIn lw_g ws_X_isOrderable := gw_of wd_124
theorem gw_X_numberOf : GoodIn lw_g ws_X_numberOf := gw_of wd_132
theorem gw_Order_init : GoodIn lw_g ws_Order_init := gw_of wd_136
theorem gw_X_addOrder : GoodIn lw_g ws_X_addOrder := gw_of wd_129
theorem gw_X_order : GoodIn lw_g ws_X_order := gw_of wd_113
theorem gw_X_find : GoodIn lw_g ws_X_find := gw_of wd_191
theorem gw_Office_mayTouch : GoodIn lw_g ws_Office_mayTouch := gw_of wd_196
theorem gw_Office_takesFailing : GoodIn lw_g ws_Office_takesFailing := gw_of wd_205
theorem gw_Order_sum : GoodIn lw_g ws_Order_sum := gw_of wd_213
theorem gw_Office_keepsLimit : GoodIn lw_g ws_Office_keepsLimit := gw_of wd_218
theorem gw_Office_giveOut : GoodIn lw_g ws_Office_giveOut := gw_of wd_222
theorem gw_Order_leaveList : GoodIn lw_g ws_Order_leaveList := gw_of wd_234
theorem gw_Order_become : GoodIn lw_g ws_Order_become := gw_of wd_230
theorem gw_Office_know : GoodIn lw_g ws_Office_know := gw_of wd_238
theorem gw_Office_knownWith : GoodIn lw_g ws_Office_knownWith := gw_of wd_243
theorem gw_X_writePaid : GoodIn lw_g ws_X_writePaid := gw_of wd_226
theorem gw_X_takeStep : GoodIn lw_g ws_X_takeStep := gw_of wd_209
theorem gw_X_undoSteps : GoodIn lw_g ws_X_undoSteps := gw_of wd_247
theorem gw_X_goThroughSteps : GoodIn lw_g ws_X_goThroughSteps := gw_of wd_201
theorem gw_X_pay : GoodIn lw_g ws_X_pay := gw_of wd_187
theorem gw_Office_tellToFail : GoodIn lw_g ws_Office_tellToFail := gw_of wd_255
theorem gw_X_fails : GoodIn lw_g ws_X_fails := gw_of wd_251
theorem gw_Try_init : GoodIn lw_g ws_Try_init := gw_of wd_263
theorem gw_X_ask : GoodIn lw_g ws_X_ask := gw_of wd_259
theorem gw_X_serve : GoodIn lw_g ws_X_serve := gw_of wd_289
theorem gw_X_answer : GoodIn lw_g ws_X_answer := gw_of wd_297
theorem gw_X_bar : GoodIn lw_g ws_X_bar := gw_of wd_301
theorem gw_X_since : GoodIn lw_g ws_X_since := gw_of wd_305
theorem gw_Order_isUnpaid : GoodIn lw_g ws_Order_isUnpaid := gw_of wd_314
theorem gw_X_replace : GoodIn lw_g ws_X_replace := gw_of wd_310
theorem gw_X_emptyListOf : GoodIn lw_g ws_X_emptyListOf := gw_of wd_322
theorem gw_X_cut : GoodIn lw_g ws_X_cut := gw_of wd_318
theorem gw_X_list : GoodIn lw_g ws_X_list := gw_of wd_327
theorem gw_X_changeTill : GoodIn lw_g ws_X_changeTill := gw_of wd_335
theorem gw_X_changeLimit : GoodIn lw_g ws_X_changeLimit := gw_of wd_340
theorem gw_X_changeRate : GoodIn lw_g ws_X_changeRate := gw_of wd_344
theorem gw_X_set : GoodIn lw_g ws_X_set := gw_of wd_331
theorem gw_X_isCollectDay : GoodIn lw_g ws_X_isCollectDay := gw_of wd_352
theorem gw_Collected_init : GoodIn lw_g ws_Collected_init := gw_of wd_356
theorem gw_X_collect : GoodIn lw_g ws_X_collect := gw_of wd_349
theorem gw_X_passOn : GoodIn lw_g ws_X_passOn := gw_of wd_378
theorem gw_X_pass : GoodIn lw_g ws_X_pass := gw_of wd_374
theorem gw_X_sendBack : GoodIn lw_g ws_X_sendBack := gw_of wd_386
theorem gw_X_tick : GoodIn lw_g ws_X_tick := gw_of wd_382
theorem gw_X_placeOf : GoodIn lw_g ws_X_placeOf := gw_of wd_393
theorem gw_X_about : GoodIn lw_g ws_X_about := gw_of wd_390
theorem gw_X_till : GoodIn lw_g ws_X_till := gw_of wd_398
theorem gw_X_all : GoodIn lw_g ws_X_all := gw_of wd_402
theorem gw_M_init : GoodIn lw_g ws_M_init := gw_of wd_407
theorem gw_M_in : GoodIn lw_g ws_M_in := gw_of wd_520
theorem gw_M_isOffice : GoodIn lw_g ws_M_isOffice := gw_of wd_516
theorem gw_M_numberOf : GoodIn lw_g ws_M_numberOf := gw_of wd_529
theorem gw_M_find : GoodIn lw_g ws_M_find := gw_of wd_537
theorem gw_M_add : GoodIn lw_g ws_M_add := gw_of wd_526
theorem gw_M_order : GoodIn lw_g ws_M_order := gw_of wd_513
theorem gw_M_sumOf : GoodIn lw_g ws_M_sumOf := gw_of wd_546
theorem gw_M_failsNow : GoodIn lw_g ws_M_failsNow := gw_of wd_541
theorem gw_M_pay : GoodIn lw_g ws_M_pay := gw_of wd_533
theorem gw_M_fails : GoodIn lw_g ws_M_fails := gw_of wd_550
theorem gw_M_ask : GoodIn lw_g ws_M_ask := gw_of wd_555
theorem gw_M_serve : GoodIn lw_g ws_M_serve := gw_of wd_559
theorem gw_M_answer : GoodIn lw_g ws_M_answer := gw_of wd_564
theorem gw_M_bar : GoodIn lw_g ws_M_bar := gw_of wd_568
theorem gw_M_since : GoodIn lw_g ws_M_since := gw_of wd_572
theorem gw_M_replace : GoodIn lw_g ws_M_replace := gw_of wd_577
theorem gw_M_tick : GoodIn lw_g ws_M_tick := gw_of wd_581
theorem gw_M_listed : GoodIn lw_g ws_M_listed := gw_of wd_593
theorem gw_M_cut : GoodIn lw_g ws_M_cut := gw_of wd_585
theorem gw_M_list : GoodIn lw_g ws_M_list := gw_of wd_589
theorem gw_M_set : GoodIn lw_g ws_M_set := gw_of wd_597
theorem gw_M_collect : GoodIn lw_g ws_M_collect := gw_of wd_605
theorem gw_M_pass : GoodIn lw_g ws_M_pass := gw_of wd_610
theorem gw_M_about : GoodIn lw_g ws_M_about := gw_of wd_614
theorem gw_M_till : GoodIn lw_g ws_M_till := gw_of wd_619
theorem gw_M_all : GoodIn lw_g ws_M_all := gw_of wd_623
end
section
/-! ROWS over a heap that is a finite map M from addresses to cells (mg_H): every row of the kit's worlds, with the list of cells hidden. -/
def mg_H (D : va_G) (cl : List vw_C) (A : Nat → Prop) (M : Nat → Option va_E) (H : Heap) : Prop := ∃ ws : va_W, va_P D cl ws H ∧ va_D A ws ∧ ∀ (a : Nat) (e : va_E), (∃ k : Nat, ws[k]? = some (a, e)) ↔ M a = some e
theorem mg_set {A : Nat → Prop} {ws : va_W} {M : Nat → Option va_E} {a k0 : Nat} {e0 e1 : va_E} (hD : va_D A ws) (hM : ∀ (a : Nat) (e : va_E), (∃ k : Nat, ws[k]? = some (a, e)) ↔ M a = some e) (h0 : ws[k0]? = some (a, e0)) : ∀ (b : Nat) (e : va_E), (∃ k : Nat, (ws.set k0 (a, e1))[k]? = some (b, e)) ↔ va_up M a (some e1) b = some e := by
  intro b e
  have hl := (List.getElem?_eq_some_iff.mp h0).1
  constructor
  · intro hk
    obtain ⟨k, hk⟩ := hk
    by_cases h : k = k0
    · subst h
      rw [List.getElem?_set_self hl] at hk
      cases hk
      exact va_up_self M a (some e1)
    · rw [List.getElem?_set_ne (Ne.symm h)] at hk
      have hne : b ≠ a := fun z => h (hD.1 k k0 _ _ hk h0 z)
      rw [va_up_ne M _ hne]
      exact (hM b e).mp ⟨k, hk⟩
  · intro h
    by_cases z : b = a
    · subst z
      rw [va_up_self] at h
      cases h
      exact ⟨k0, List.getElem?_set_self hl⟩
    · rw [va_up_ne M _ z] at h
      obtain ⟨k, hk⟩ := (hM b e).mpr h
      have hkk : k ≠ k0 := fun q => z (by rw [q] at hk; have h9 := Option.some.inj (hk.symm.trans h0); exact congrArg Prod.fst h9)
      exact ⟨k, by rw [List.getElem?_set_ne (Ne.symm hkk)]; exact hk⟩
theorem mg_push {A : Nat → Prop} {ws : va_W} {M : Nat → Option va_E} {q : Nat} {e1 : va_E} (hD : va_D A (ws ++ [(q, e1)])) (hM : ∀ (a : Nat) (e : va_E), (∃ k : Nat, ws[k]? = some (a, e)) ↔ M a = some e) : M q = none ∧ ∀ (b : Nat) (e : va_E), (∃ k : Nat, (ws ++ [(q, e1)])[k]? = some (b, e)) ↔ va_up M q (some e1) b = some e := by
  have hlast : (ws ++ [(q, e1)])[ws.length]? = some (q, e1) := by rw [List.getElem?_append_right (Nat.le_refl _), Nat.sub_self]; rfl
  have hq : M q = none := by
    cases hm : M q with
    | none => rfl
    | some e =>
      obtain ⟨k, hk⟩ := (hM q e).mpr hm
      have hlt := (List.getElem?_eq_some_iff.mp hk).1
      have h2 : (ws ++ [(q, e1)])[k]? = some (q, e) := by rw [List.getElem?_append_left hlt]; exact hk
      have h3 := hD.1 k ws.length _ _ h2 hlast rfl
      omega
  refine ⟨hq, fun b e => ⟨fun hk => ?_, fun h => ?_⟩⟩
  · obtain ⟨k, hk⟩ := hk
    by_cases hlt : k < ws.length
    · rw [List.getElem?_append_left hlt] at hk
      have h1 := (hM b e).mp ⟨k, hk⟩
      have hne : b ≠ q := fun z => by rw [z, hq] at h1; cases h1
      rw [va_up_ne M _ hne]
      exact h1
    · rw [List.getElem?_append_right (by omega)] at hk
      have hz : k - ws.length < 1 := (List.getElem?_eq_some_iff.mp hk).1
      rw [show k - ws.length = 0 by omega] at hk
      cases hk
      exact va_up_self M q (some e1)
  · by_cases z : b = q
    · subst z
      rw [va_up_self] at h
      cases h
      exact ⟨_, hlast⟩
    · rw [va_up_ne M _ z] at h
      obtain ⟨k, hk⟩ := (hM b e).mpr h
      have hlt := (List.getElem?_eq_some_iff.mp hk).1
      exact ⟨k, by rw [List.getElem?_append_left hlt]; exact hk⟩
theorem mg_H.kept {D : va_G} {cl : List vw_C} {A B : Nat → Prop} {M : Nat → Option va_E} {H H1 : Heap} (h : mg_H D cl A M H) (hq : ∀ a : Nat, a < H.size → A a → H1[a]? = H[a]?) (hB : ∀ a, A a → B a) : mg_H D cl B M H1 := by
  obtain ⟨ws, hP, hD, hM⟩ := h
  exact ⟨ws, hP.kept (fun k q hk => hq q.1 ((hP k q hk).lt) (hD.2 k q hk)), hD.weaken (fun k q _ h => hB _ h), hM⟩
section MGR
variable {p : Program} {l : Launch} {e : Env} {R : Room} {s : State} {m : MethodId} {args : Array Value} {below : List Frame} {meth : Method} {c : Code} {H : Heap} {locs : List Loc} {cells slots : Nat} {Q : State → Prop}
variable {cc : ByteArray} {pc : Nat} {ls : Array Slot} {rest : List Value} {D : va_G} {cl : List vw_C} {A : Nat → Prop} {a : Nat} {tys : List (ClassId × FieldType)} {H0 : Heap} {M : Nat → Option va_E}
theorem mg_get (hexec : p.tables.exec = Jvm.exec) (hb : c.code = cc) {own ref C : String} {T : u_T} {N ci index : Nat} {Ts : List Cond} (hts : ∀ w ∈ Ts, w.before args s = true) (hin : ∀ w ∈ u_ws C T N, w ∈ Ts) (hown : s.vm.findClass own = some m.cls) (hK : va_K D cl tys s) (hH : mg_H D cl A M H) {fs : List Value} (he : M a = some (.inr (ci, fs))) (hc : cl[ci]? = some (C, T, N)) (k : Nat) (hk : k < N) (hlink : (Cond.fieldLink own index ref (T k).2.1 (T k).2.2.1).before args s = true) (hsame : ∀ x, s.fieldFound? (T k).1 (T k).2.1 (T k).2.2.1 = some x → s.fieldFound? ref (T k).2.1 (T k).2.2.1 = some x) {v : Value} (hv : fs[k]? = some v) (hdg : decode cc pc = .ok (.getfield index, 3))
    (kk : W p l e R s m args below meth c H locs cells slots Q (F0 m (pc + 3) ls (v :: rest))) : W p l e R s m args below meth c H locs cells slots Q (F0 m pc ls (.ref a :: rest)) := by
  obtain ⟨ws, hP, hD, hM⟩ := hH
  obtain ⟨q0, hq⟩ := (hM a _).mpr he
  exact va_get hexec hb hts hin hown hK hP q0 hq hc k hk hlink hsame hv hdg kk
theorem mg_getN (hexec : p.tables.exec = Jvm.exec) (hb : c.code = cc) {own ref C host : String} {T : u_T} {N ci index : Nat} {Ts : List Cond} (hts : ∀ w ∈ Ts, w.before args s = true) (hin : ∀ w ∈ u_ws C T N, w ∈ Ts) (hown : s.vm.findClass own = some m.cls) (hK : va_K D cl tys s) (hH : mg_H D cl A M H) {fs : List Value} (he : M a = some (.inr (ci, fs))) (hc : cl[ci]? = some (C, T, N)) (k : Nat) (hk : k < N) (hlink : (Cond.fieldLinkNest own index ref (T k).2.1 (T k).2.2.1 host).before args s = true) (hsame : ∀ x, s.fieldFound? (T k).1 (T k).2.1 (T k).2.2.1 = some x → s.fieldFound? ref (T k).2.1 (T k).2.2.1 = some x) {v : Value} (hv : fs[k]? = some v) (hdg : decode cc pc = .ok (.getfield index, 3))
    (kk : W p l e R s m args below meth c H locs cells slots Q (F0 m (pc + 3) ls (v :: rest))) : W p l e R s m args below meth c H locs cells slots Q (F0 m pc ls (.ref a :: rest)) := by
  obtain ⟨ws, hP, hD, hM⟩ := hH
  obtain ⟨q0, hq⟩ := (hM a _).mpr he
  exact va_getN hexec hb hts hin hown hK hP q0 hq hc k hk hlink hsame hv hdg kk
theorem mg_put (hexec : p.tables.exec = Jvm.exec) (hb : c.code = cc) {own ref C : String} {T : u_T} {N ci index : Nat} {Ts : List Cond} (hts : ∀ w ∈ Ts, w.before args s = true) (hin : ∀ w ∈ u_ws C T N, w ∈ Ts) (ty0 : Nat → FieldType) (hty : ∀ k, k < N → parseFieldDescriptor (T k).2.2.1 = some (ty0 k)) (hnm : ∀ a, a < N → ∀ b, b < N → a ≠ b → (T a).2.1 ≠ (T b).2.1) (hown : s.vm.findClass own = some m.cls) (hK : va_K D cl tys s) (hH : mg_H D cl A M H) (hS0 : va_S A H0 H locs) {fs : List Value} (he : M a = some (.inr (ci, fs))) (hc : cl[ci]? = some (C, T, N)) (k : Nat) (hk : k < N) (hlink : (Cond.fieldLink own index ref (T k).2.1 (T k).2.2.1).before args s = true) (hsame : ∀ x, s.fieldFound? (T k).1 (T k).2.1 (T k).2.2.1 = some x → s.fieldFound? ref (T k).2.1 (T k).2.2.1 = some x) (hfin : (T k).2.2.2 = false) {ty : FieldType} {v : Value} (hd : parseFieldDescriptor (T k).2.2.1 = some ty) (hn : narrow ty v = v) (hfit : fits ty v = true) (hl : k < fs.length) (hdg : decode cc pc = .ok (.putfield index, 3)) {M' : Nat → Option va_E} (hM' : M' = va_up M a (some (.inr (ci, fs.set k v))))
    (kk : ∀ (H1 : Heap) (locs1 : List Loc), mg_H D cl A M' H1 → va_S A H0 H1 locs1 → W p l e R s m args below meth c H1 locs1 cells slots Q (F0 m (pc + 3) ls rest)) : W p l e R s m args below meth c H locs cells slots Q (F0 m pc ls (v :: .ref a :: rest)) := by
  obtain ⟨ws, hP, hD, hM⟩ := hH
  obtain ⟨q0, hq⟩ := (hM a _).mpr he
  subst hM'
  exact va_put hexec hb hts hin ty0 hty hnm hown hK hP hD hS0 q0 hq hc k hk hlink hsame hfin hd hn hfit hl hdg (fun H1 locs1 hP1 hD1 hS1 => kk H1 locs1 ⟨_, hP1, hD1, mg_set hD hM hq⟩ hS1)
theorem mg_putN (hexec : p.tables.exec = Jvm.exec) (hb : c.code = cc) {own ref C host : String} {T : u_T} {N ci index : Nat} {Ts : List Cond} (hts : ∀ w ∈ Ts, w.before args s = true) (hin : ∀ w ∈ u_ws C T N, w ∈ Ts) (ty0 : Nat → FieldType) (hty : ∀ k, k < N → parseFieldDescriptor (T k).2.2.1 = some (ty0 k)) (hnm : ∀ a, a < N → ∀ b, b < N → a ≠ b → (T a).2.1 ≠ (T b).2.1) (hown : s.vm.findClass own = some m.cls) (hK : va_K D cl tys s) (hH : mg_H D cl A M H) (hS0 : va_S A H0 H locs) {fs : List Value} (he : M a = some (.inr (ci, fs))) (hc : cl[ci]? = some (C, T, N)) (k : Nat) (hk : k < N) (hlink : (Cond.fieldLinkNest own index ref (T k).2.1 (T k).2.2.1 host).before args s = true) (hsame : ∀ x, s.fieldFound? (T k).1 (T k).2.1 (T k).2.2.1 = some x → s.fieldFound? ref (T k).2.1 (T k).2.2.1 = some x) (hfin : (T k).2.2.2 = false) {ty : FieldType} {v : Value} (hd : parseFieldDescriptor (T k).2.2.1 = some ty) (hn : narrow ty v = v) (hfit : fits ty v = true) (hl : k < fs.length) (hdg : decode cc pc = .ok (.putfield index, 3)) {M' : Nat → Option va_E} (hM' : M' = va_up M a (some (.inr (ci, fs.set k v))))
    (kk : ∀ (H1 : Heap) (locs1 : List Loc), mg_H D cl A M' H1 → va_S A H0 H1 locs1 → W p l e R s m args below meth c H1 locs1 cells slots Q (F0 m (pc + 3) ls rest)) : W p l e R s m args below meth c H locs cells slots Q (F0 m pc ls (v :: .ref a :: rest)) := by
  obtain ⟨ws, hP, hD, hM⟩ := hH
  obtain ⟨q0, hq⟩ := (hM a _).mpr he
  subst hM'
  exact va_putN hexec hb hts hin ty0 hty hnm hown hK hP hD hS0 q0 hq hc k hk hlink hsame hfin hd hn hfit hl hdg (fun H1 locs1 hP1 hD1 hS1 => kk H1 locs1 ⟨_, hP1, hD1, mg_set hD hM hq⟩ hS1)
theorem mg_putF (hexec : p.tables.exec = Jvm.exec) (hb : c.code = cc) {own ref C : String} {T : u_T} {N ci index : Nat} {Ts : List Cond} (hts : ∀ w ∈ Ts, w.before args s = true) (hin : ∀ w ∈ u_ws C T N, w ∈ Ts) (ty0 : Nat → FieldType) (hty : ∀ k, k < N → parseFieldDescriptor (T k).2.2.1 = some (ty0 k)) (hnm : ∀ a, a < N → ∀ b, b < N → a ≠ b → (T a).2.1 ≠ (T b).2.1) (hown : s.vm.findClass own = some m.cls) (hK : va_K D cl tys s) (hH : mg_H D cl A M H) (hS0 : va_S A H0 H locs) {fs : List Value} (he : M a = some (.inr (ci, fs))) (hc : cl[ci]? = some (C, T, N)) (k : Nat) (hk : k < N) (hlink : (Cond.fieldLink own index ref (T k).2.1 (T k).2.2.1).before args s = true) (hsame : ∀ x, s.fieldFound? (T k).1 (T k).2.1 (T k).2.2.1 = some x → s.fieldFound? ref (T k).2.1 (T k).2.2.1 = some x) (hfin : (T k).2.2.2 = true) (hin2 : meth.name = "<init>") (hdecl : (T k).1 = own) {ty : FieldType} {v : Value} (hd : parseFieldDescriptor (T k).2.2.1 = some ty) (hn : narrow ty v = v) (hfit : fits ty v = true) (hl : k < fs.length) (hdg : decode cc pc = .ok (.putfield index, 3)) {M' : Nat → Option va_E} (hM' : M' = va_up M a (some (.inr (ci, fs.set k v))))
    (kk : ∀ (H1 : Heap) (locs1 : List Loc), mg_H D cl A M' H1 → va_S A H0 H1 locs1 → W p l e R s m args below meth c H1 locs1 cells slots Q (F0 m (pc + 3) ls rest)) : W p l e R s m args below meth c H locs cells slots Q (F0 m pc ls (v :: .ref a :: rest)) := by
  obtain ⟨ws, hP, hD, hM⟩ := hH
  obtain ⟨q0, hq⟩ := (hM a _).mpr he
  subst hM'
  exact va_putF hexec hb hts hin ty0 hty hnm hown hK hP hD hS0 q0 hq hc k hk hlink hsame hfin hin2 hdecl hd hn hfit hl hdg (fun H1 locs1 hP1 hD1 hS1 => kk H1 locs1 ⟨_, hP1, hD1, mg_set hD hM hq⟩ hS1)
theorem mg_iald (hexec : p.tables.exec = Jvm.exec) (hb : c.code = cc) {cA : ClassId} (hK : va_K D cl [(cA, .int)] s) (hH : mg_H D cl A M H) {n : Nat} {f : Nat → Int32} (ha : M a = some (.inl (cA, n, .inl f))) {i : Int32} (hin : vp_in i n) (hdg : decode cc pc = .ok (.iaload, 1))
    (kk : W p l e R s m args below meth c H locs cells slots Q (F0 m (pc + 1) ls (.int (f i.toNatClampNeg) :: rest))) : W p l e R s m args below meth c H locs cells slots Q (F0 m pc ls (.int i :: .ref a :: rest)) := by
  obtain ⟨ws, hP, hD, hM⟩ := hH
  obtain ⟨q0, hq⟩ := (hM a _).mpr ha
  exact va_iald hexec hb hK hP q0 0 hq rfl hin hdg kk
theorem mg_lald (hexec : p.tables.exec = Jvm.exec) (hb : c.code = cc) {cA : ClassId} (hK : va_K D cl [(cA, .long)] s) (hH : mg_H D cl A M H) {n : Nat} {f : Nat → Int64} (ha : M a = some (.inl (cA, n, .inr (.inl f)))) {i : Int32} (hin : vp_in i n) (hdg : decode cc pc = .ok (.laload, 1))
    (kk : W p l e R s m args below meth c H locs cells slots Q (F0 m (pc + 1) ls (.long (f i.toNatClampNeg) :: rest))) : W p l e R s m args below meth c H locs cells slots Q (F0 m pc ls (.int i :: .ref a :: rest)) := by
  obtain ⟨ws, hP, hD, hM⟩ := hH
  obtain ⟨q0, hq⟩ := (hM a _).mpr ha
  exact va_lald hexec hb hK hP q0 0 hq rfl hin hdg kk
theorem mg_aald (hexec : p.tables.exec = Jvm.exec) (hb : c.code = cc) {cA : ClassId} {C : String} (hK : va_K D cl [(cA, .object C)] s) (hH : mg_H D cl A M H) {n : Nat} {f : Nat → Option Nat} (ha : M a = some (.inl (cA, n, .inr (.inr (.inr (.inr f)))))) {i : Int32} (hin : vp_in i n) (hdg : decode cc pc = .ok (.aaload, 1))
    (kk : W p l e R s m args below meth c H locs cells slots Q (F0 m (pc + 1) ls (va_rf (f i.toNatClampNeg) :: rest))) : W p l e R s m args below meth c H locs cells slots Q (F0 m pc ls (.int i :: .ref a :: rest)) := by
  obtain ⟨ws, hP, hD, hM⟩ := hH
  obtain ⟨q0, hq⟩ := (hM a _).mpr ha
  exact va_aldq hexec hb hK hP q0 0 hq rfl hin hdg kk
theorem mg_iast (hexec : p.tables.exec = Jvm.exec) (hb : c.code = cc) {cA : ClassId} (hK : va_K D cl [(cA, .int)] s) (hH : mg_H D cl A M H) (hS : va_S A H0 H locs) {n : Nat} {f : Nat → Int32} (ha : M a = some (.inl (cA, n, .inl f))) {i : Int32} {x : Int32} (hin : vp_in i n) (hdg : decode cc pc = .ok (.iastore, 1)) {M' : Nat → Option va_E} (hM' : M' = va_up M a (some (.inl (cA, n, .inl (upd f i.toNatClampNeg x)))))
    (kk : ∀ (H1 : Heap) (locs1 : List Loc), mg_H D cl A M' H1 → va_S A H0 H1 locs1 → W p l e R s m args below meth c H1 locs1 cells slots Q (F0 m (pc + 1) ls rest)) : W p l e R s m args below meth c H locs cells slots Q (F0 m pc ls (.int x :: .int i :: .ref a :: rest)) := by
  obtain ⟨ws, hP, hD, hM⟩ := hH
  obtain ⟨q0, hq⟩ := (hM a _).mpr ha
  subst hM'
  exact va_iast hexec hb hK hP hD hS q0 0 hq rfl hin hdg (fun H1 locs1 hP1 hD1 hS1 => kk H1 locs1 ⟨_, hP1, hD1, mg_set hD hM hq⟩ hS1)
theorem mg_last (hexec : p.tables.exec = Jvm.exec) (hb : c.code = cc) {cA : ClassId} (hK : va_K D cl [(cA, .long)] s) (hH : mg_H D cl A M H) (hS : va_S A H0 H locs) {n : Nat} {f : Nat → Int64} (ha : M a = some (.inl (cA, n, .inr (.inl f)))) {i : Int32} {x : Int64} (hin : vp_in i n) (hdg : decode cc pc = .ok (.lastore, 1)) {M' : Nat → Option va_E} (hM' : M' = va_up M a (some (.inl (cA, n, .inr (.inl (vp_updL f i.toNatClampNeg x))))))
    (kk : ∀ (H1 : Heap) (locs1 : List Loc), mg_H D cl A M' H1 → va_S A H0 H1 locs1 → W p l e R s m args below meth c H1 locs1 cells slots Q (F0 m (pc + 1) ls rest)) : W p l e R s m args below meth c H locs cells slots Q (F0 m pc ls (.long x :: .int i :: .ref a :: rest)) := by
  obtain ⟨ws, hP, hD, hM⟩ := hH
  obtain ⟨q0, hq⟩ := (hM a _).mpr ha
  subst hM'
  exact va_last hexec hb hK hP hD hS q0 0 hq rfl hin hdg (fun H1 locs1 hP1 hD1 hS1 => kk H1 locs1 ⟨_, hP1, hD1, mg_set hD hM hq⟩ hS1)
theorem mg_zald (hexec : p.tables.exec = Jvm.exec) (hb : c.code = cc) {cA : ClassId} (hK : va_K D cl [(cA, .boolean)] s) (hH : mg_H D cl A M H) {n : Nat} {f : Nat → Int32} (ha : M a = some (.inl (cA, n, .inl f))) {i : Int32} (hin : vp_in i n) (hdg : decode cc pc = .ok (.baload, 1))
    (kk : W p l e R s m args below meth c H locs cells slots Q (F0 m (pc + 1) ls (.int (f i.toNatClampNeg) :: rest))) : W p l e R s m args below meth c H locs cells slots Q (F0 m pc ls (.int i :: .ref a :: rest)) := by
  obtain ⟨ws, hP, hD, hM⟩ := hH
  obtain ⟨q0, hq⟩ := (hM a _).mpr ha
  exact va_zald hexec hb hK hP q0 0 hq rfl hin hdg kk
theorem mg_zast (hexec : p.tables.exec = Jvm.exec) (hb : c.code = cc) {cA : ClassId} (hK : va_K D cl [(cA, .boolean)] s) (hH : mg_H D cl A M H) (hS : va_S A H0 H locs) {n : Nat} {f : Nat → Int32} (ha : M a = some (.inl (cA, n, .inl f))) {i : Int32} {x : Int32} (hv : x = 0 ∨ x = 1) (hin : vp_in i n) (hdg : decode cc pc = .ok (.bastore, 1)) {M' : Nat → Option va_E} (hM' : M' = va_up M a (some (.inl (cA, n, .inl (upd f i.toNatClampNeg x)))))
    (kk : ∀ (H1 : Heap) (locs1 : List Loc), mg_H D cl A M' H1 → va_S A H0 H1 locs1 → W p l e R s m args below meth c H1 locs1 cells slots Q (F0 m (pc + 1) ls rest)) : W p l e R s m args below meth c H locs cells slots Q (F0 m pc ls (.int x :: .int i :: .ref a :: rest)) := by
  obtain ⟨ws, hP, hD, hM⟩ := hH
  obtain ⟨q0, hq⟩ := (hM a _).mpr ha
  subst hM'
  have hz : vp_nar .boolean x = x := by rcases hv with rfl | rfl <;> rfl
  refine va_zast hexec hb hK hP hD hS q0 0 hq rfl hin hdg (fun H1 locs1 hP1 hD1 hS1 => ?_)
  rw [hz] at hP1 hD1
  exact kk H1 locs1 ⟨_, hP1, hD1, mg_set hD hM hq⟩ hS1
/-- a reference, null or not, into an array of its class -/
theorem mg_aast (hexec : p.tables.exec = Jvm.exec) (hb : c.code = cc) {cA : ClassId} {r : vw_C} {ci : Nat} (hc : cl[ci]? = some r) (hK : va_K D cl [(cA, .object r.1)] s) (hH : mg_H D cl A M H) (hS : va_S A H0 H locs) {n : Nat} {f : Nat → Option Nat} (ha : M a = some (.inl (cA, n, .inr (.inr (.inr (.inr f)))))) {i : Int32} {v : Option Nat} (hv : ∀ y, v = some y → ∃ vs, M y = some (.inr (ci, vs))) (hin : vp_in i n) (hdg : decode cc pc = .ok (.aastore, 1)) {M' : Nat → Option va_E} (hM' : M' = va_up M a (some (.inl (cA, n, .inr (.inr (.inr (.inr (va_up f i.toNatClampNeg v))))))))
    (kk : ∀ (H1 : Heap) (locs1 : List Loc), mg_H D cl A M' H1 → va_S A H0 H1 locs1 → W p l e R s m args below meth c H1 locs1 cells slots Q (F0 m (pc + 1) ls rest)) : W p l e R s m args below meth c H locs cells slots Q (F0 m pc ls (va_rf v :: .int i :: .ref a :: rest)) := by
  obtain ⟨ws, hP, hD, hM⟩ := hH
  obtain ⟨q0, hq⟩ := (hM a _).mpr ha
  subst hM'
  cases v with
  | none => exact va_astqN hexec hb hK hP hD hS q0 0 hq rfl hin hdg (fun H1 locs1 hP1 hD1 hS1 => kk H1 locs1 ⟨_, hP1, hD1, mg_set hD hM hq⟩ hS1)
  | some y =>
    obtain ⟨vs, hvs⟩ := hv y rfl
    obtain ⟨qk, hqk⟩ := (hM y _).mpr hvs
    exact va_astq hexec hb hK hP hD hS q0 0 qk ci hq rfl hqk hc hin hdg (fun H1 locs1 hP1 hD1 hS1 => kk H1 locs1 ⟨_, hP1, hD1, mg_set hD hM hq⟩ hS1)
theorem mg_alen (hexec : p.tables.exec = Jvm.exec) (hb : c.code = cc) {cA : ClassId} {ty : FieldType} (hK : va_K D cl [(cA, ty)] s) (hH : mg_H D cl A M H) {x : vp_A} (ha : M a = some (.inl (cA, x))) {v : Int32} (hv : Int32.ofNat x.1 = v) (hdg : decode cc pc = .ok (.arraylength, 1))
    (kk : W p l e R s m args below meth c H locs cells slots Q (F0 m (pc + 1) ls (.int v :: rest))) : W p l e R s m args below meth c H locs cells slots Q (F0 m pc ls (.ref a :: rest)) := by
  obtain ⟨ws, hP, hD, hM⟩ := hH
  obtain ⟨q0, hq⟩ := (hM a _).mpr ha
  exact va_alen hexec hb hK hP q0 0 hq rfl hv hdg kk
theorem mg_new (hexec : p.tables.exec = Jvm.exec) (hb : c.code = cc) {own C : String} {T : u_T} {N ci index : Nat} {Ts : List Cond} (hts : ∀ w ∈ Ts, w.before args s = true) (hin : ∀ w ∈ u_ws C T N, w ∈ Ts) (ty : Nat → FieldType) (hty : ∀ k, k < N → parseFieldDescriptor (T k).2.2.1 = some (ty k)) (hown : s.vm.findClass own = some m.cls) (hcl : (Cond.classLink own index C).before args s = true) (hinst : (Cond.instantiable C N).before args s = true) (hini : (Cond.initialized C).before args s = true)
    (hK : va_K D cl tys s) (hH : mg_H D cl A M H) (hS : va_S A H0 H locs) (hA : ∀ q, H0.size ≤ q → A q) (hc : cl[ci]? = some (C, T, N)) {fs : List Value} (hfs : ∀ j, j < N → defaultValue (ty j) = vp_V fs j) (hcells : cells + 1 ≤ R.cells) (hslots : slots + N ≤ R.slots) (hdg : decode cc pc = .ok (.new index, 3))
    (kk : ∀ (q : Nat) (H1 : Heap), M q = none → mg_H D cl A (va_up M q (some (.inr (ci, fs)))) H1 → va_S A H0 H1 locs → W p l e R s m args below meth c H1 locs (cells + 1) (slots + N) Q (F0 m (pc + 3) ls (.ref q :: rest))) : W p l e R s m args below meth c H locs cells slots Q (F0 m pc ls rest) := by
  obtain ⟨ws, hP, hD, hM⟩ := hH
  exact va_new hexec hb hts hin ty hty hown hcl hinst hini hK hP hD hS hA hc hfs hcells hslots hdg (fun q H1 hP1 hD1 hS1 => kk q H1 (mg_push hD1 hM).1 ⟨_, hP1, hD1, (mg_push hD1 hM).2⟩ hS1)
theorem mg_newa (hexec : p.tables.exec = Jvm.exec) (hb : c.code = cc) {atype : ArrayType} (harr : (Cond.arrayClass (newarray.typeOf atype)).before args s = true) {ty : FieldType} (hty : newarray.typeOf atype = ty) (hK : va_K D cl [] s) (hH : mg_H D cl A M H) (hS : va_S A H0 H locs) (hA : ∀ q, H0.size ≤ q → A q)
    {n : Int32} {N' : Nat} {a0 : vp_A} (ha : ∀ cA : ClassId, vp_cell cA a0 = arrV cA N' (fun _ => defaultValue ty)) (hn : ¬ n < 0) (hN : n.toNatClampNeg = N') (hbytes : N' * componentBytes ty ≤ 536870912) (hcells : cells + 1 ≤ R.cells) (hslots : slots + N' ≤ R.slots) (hdg : decode cc pc = .ok (.newarray atype, 2))
    (kk : ∀ (q : Nat) (cA : ClassId) (H1 : Heap), M q = none → va_K D cl [(cA, ty)] s → mg_H D cl A (va_up M q (some (.inl (cA, a0)))) H1 → va_S A H0 H1 locs → W p l e R s m args below meth c H1 locs (cells + 1) (slots + N') Q (F0 m (pc + 2) ls (.ref q :: rest))) : W p l e R s m args below meth c H locs cells slots Q (F0 m pc ls (.int n :: rest)) := by
  obtain ⟨ws, hP, hD, hM⟩ := hH
  exact va_newa hexec hb harr hty hK hP hD hS hA ha hn hN hbytes hcells hslots hdg (fun q cA H1 hK1 hP1 hD1 hS1 => kk q cA H1 (mg_push hD1 hM).1 hK1 ⟨_, hP1, hD1, (mg_push hD1 hM).2⟩ hS1)
theorem mg_newq (hexec : p.tables.exec = Jvm.exec) (hb : c.code = cc) {own C : String} {index : Nat} (hown : s.vm.findClass own = some m.cls) (hclink : (Cond.classLink own index C).before args s = true) (hover : va_AO C s) (hK : va_K D cl [] s) (hH : mg_H D cl A M H) (hS : va_S A H0 H locs) (hA : ∀ q, H0.size ≤ q → A q)
    {n : Int32} {N' : Nat} (hn : ¬ n < 0) (hN : n.toNatClampNeg = N') (hbytes : N' * 4 ≤ 536870912) (hcells : cells + 1 ≤ R.cells) (hslots : slots + N' ≤ R.slots) (hdg : decode cc pc = .ok (.anewarray index, 3))
    (kk : ∀ (q : Nat) (cA : ClassId) (H1 : Heap), M q = none → va_K D cl [(cA, .object C)] s → mg_H D cl A (va_up M q (some (.inl (cA, N', .inr (.inr (.inr (.inr (fun _ => none)))))))) H1 → va_S A H0 H1 locs → W p l e R s m args below meth c H1 locs (cells + 1) (slots + N') Q (F0 m (pc + 3) ls (.ref q :: rest))) : W p l e R s m args below meth c H locs cells slots Q (F0 m pc ls (.int n :: rest)) := by
  obtain ⟨ws, hP, hD, hM⟩ := hH
  exact va_newq hexec hb hown hclink hover hK hP hD hS hA hn hN hbytes hcells hslots hdg (fun q cA H1 hK1 hP1 hD1 hS1 => kk q cA H1 (mg_push hD1 hM).1 hK1 ⟨_, hP1, hD1, (mg_push hD1 hM).2⟩ hS1)
theorem mg_recv {q : vw_C} {ci : Nat} {fs : List Value} (hK : va_K D cl tys s) (hH : mg_H D cl A M H) (hc : cl[ci]? = some q) (he : M a = some (.inr (ci, fs))) : ∃ cell : Cell, H[a]? = some cell ∧ cell.vm.isStatics = false ∧ s.vm.findClass q.1 = some cell.cls := by
  obtain ⟨ws, hP, hD, hM⟩ := hH
  obtain ⟨q0, hq⟩ := (hM a _).mpr he
  exact va_recv hK hP hc hq
/-- references on the stack and in the locals, null or not -/
theorem mr_aload_n (hexec : p.tables.exec = Jvm.exec) (hb : c.code = cc) {k : Fin 4} {i : Nat} {x : Option Nat} (hdg : decode cc pc = .ok (.aload_n k, 1)) (hi : (k : Nat) = i) (hl : ls[i]? = some (.val (va_rf x)))
    (kk : W p l e R s m args below meth c H locs cells slots Q (F0 m (pc + 1) ls (va_rf x :: rest))) : W p l e R s m args below meth c H locs cells slots Q (F0 m pc ls rest) := by
  cases x with
  | none => exact lv_aload_nN hexec hb hdg hi hl kk
  | some y => exact lv_aload_n hexec hb hdg hi hl kk
theorem mr_aload (hexec : p.tables.exec = Jvm.exec) (hb : c.code = cc) {i : Nat} {x : Option Nat} (hdg : decode cc pc = .ok (.aload i, 2)) (hl : ls[i]? = some (.val (va_rf x)))
    (kk : W p l e R s m args below meth c H locs cells slots Q (F0 m (pc + 2) ls (va_rf x :: rest))) : W p l e R s m args below meth c H locs cells slots Q (F0 m pc ls rest) := by
  cases x with
  | none => exact lv_aloadN hexec hb hdg hl kk
  | some y => exact lv_aload hexec hb hdg hl kk
theorem mr_astore_n (hexec : p.tables.exec = Jvm.exec) (hb : c.code = cc) {k : Fin 4} {i nL : Nat} {x : Option Nat} {lv lv' : List (Nat × Value)} (hdg : decode cc pc = .ok (.astore_n k, 1)) (hi : (k : Nat) = i) (h : lv_has ls nL lv) (hn : i < nL) (hl : (i, va_rf x) :: lv.filter (fun q => !(q.1 == i) && !(q.1 + 1 == i && q.2.category == 2)) = lv')
    (kk : ∀ ls' : Array Slot, lv_has ls' nL lv' → W p l e R s m args below meth c H locs cells slots Q (F0 m (pc + 1) ls' rest)) : W p l e R s m args below meth c H locs cells slots Q (F0 m pc ls (va_rf x :: rest)) := by
  cases x with
  | none => exact lv_astore_nN hexec hb hdg hi h hn hl kk
  | some y => exact lv_astore_n hexec hb hdg hi h hn hl kk
theorem mr_astore (hexec : p.tables.exec = Jvm.exec) (hb : c.code = cc) {i nL : Nat} {x : Option Nat} {lv lv' : List (Nat × Value)} (hdg : decode cc pc = .ok (.astore i, 2)) (h : lv_has ls nL lv) (hn : i < nL) (hl : (i, va_rf x) :: lv.filter (fun q => !(q.1 == i) && !(q.1 + 1 == i && q.2.category == 2)) = lv')
    (kk : ∀ ls' : Array Slot, lv_has ls' nL lv' → W p l e R s m args below meth c H locs cells slots Q (F0 m (pc + 2) ls' rest)) : W p l e R s m args below meth c H locs cells slots Q (F0 m pc ls (va_rf x :: rest)) := by
  cases x with
  | none => exact lv_astoreN hexec hb hdg h hn hl kk
  | some y => exact lv_astore hexec hb hdg h hn hl kk
theorem mr_ifnull (hexec : p.tables.exec = Jvm.exec) (hb : c.code = cc) {x : Option Nat} {off : Int} {tgt : Nat} (hdg : decode cc pc = .ok (.ifnull off, 3)) (ht : (pc : Int) + off = (tgt : Int)) (kt : x = none → W p l e R s m args below meth c H locs cells slots Q (F0 m tgt ls rest)) (kf : ¬ x = none → W p l e R s m args below meth c H locs cells slots Q (F0 m (pc + 3) ls rest)) : W p l e R s m args below meth c H locs cells slots Q (F0 m pc ls (va_rf x :: rest)) := by
  cases x with
  | none => exact lv_ifnullN hexec hb hdg ht (kt rfl)
  | some y => exact lv_ifnull hexec hb hdg (kf (fun h => by cases h))
theorem mr_ifnonnull (hexec : p.tables.exec = Jvm.exec) (hb : c.code = cc) {x : Option Nat} {off : Int} {tgt : Nat} (hdg : decode cc pc = .ok (.ifnonnull off, 3)) (ht : (pc : Int) + off = (tgt : Int)) (kt : ¬ x = none → W p l e R s m args below meth c H locs cells slots Q (F0 m tgt ls rest)) (kf : x = none → W p l e R s m args below meth c H locs cells slots Q (F0 m (pc + 3) ls rest)) : W p l e R s m args below meth c H locs cells slots Q (F0 m pc ls (va_rf x :: rest)) := by
  cases x with
  | none => exact lv_ifnonnullN hexec hb hdg (kf rfl)
  | some y => exact lv_ifnonnull hexec hb hdg ht (kt (fun h => by cases h))
theorem mr_null (hexec : p.tables.exec = Jvm.exec) (hb : c.code = cc) (hdg : decode cc pc = .ok (.aconst_null, 1)) (kk : W p l e R s m args below meth c H locs cells slots Q (F0 m (pc + 1) ls (va_rf none :: rest))) : W p l e R s m args below meth c H locs cells slots Q (F0 m pc ls rest) := lv_null hexec hb hdg kk
end MGR
theorem cat_rf (r : Option Nat) : (va_rf r).category = 1 := by cases r <;> rfl
theorem cat_i (x : Int32) : (Value.int x).category = 1 := rfl
theorem cat_l (x : Int64) : (Value.long x).category = 2 := rfl
theorem cat_r (x : Nat) : (Value.ref x).category = 1 := rfl
theorem nar_rf (C : String) (r : Option Nat) : narrow (.object C) (va_rf r) = va_rf r := by cases r <;> rfl
theorem fit_rf (C : String) (r : Option Nat) : fits (.object C) (va_rf r) = true := by cases r <;> rfl
theorem nar_ra (t : FieldType) (r : Option Nat) : narrow (.array t) (va_rf r) = va_rf r := by cases r <;> rfl
theorem fit_ra (t : FieldType) (r : Option Nat) : fits (.array t) (va_rf r) = true := by cases r <;> rfl
theorem narb {v : Int32} (h : v = 0 ∨ v = 1) : narrow .boolean (.int v) = .int v := by rcases h with rfl | rfl <;> rfl
theorem fitb {v : Int32} (h : v = 0 ∨ v = 1) : fits .boolean (.int v) = true := by rcases h with rfl | rfl <;> rfl
end
section
/-! THE STATE: per field a function of the address (Burstall), tags for liveness; made by mkstate.py -/
abbrev ST : Type := (Nat → Option Nat) × (Nat → ClassId) × (Nat → Nat) × (Nat → Nat → Int32) × (Nat → Nat → Int64) × (Nat → Nat → Option Nat) × (Nat → Nat → Int32) × (Nat → Nat → Int64) × (Nat → Nat → Option Nat)
def st_tg (σ : ST) : Nat → Option Nat := σ.1
def st_cl (σ : ST) : Nat → ClassId := σ.2.1
def st_ln (σ : ST) : Nat → Nat := σ.2.2.1
def st_I (σ : ST) : Nat → Nat → Int32 := σ.2.2.2.1
def st_J (σ : ST) : Nat → Nat → Int64 := σ.2.2.2.2.1
def st_R (σ : ST) : Nat → Nat → Option Nat := σ.2.2.2.2.2.1
def st_eI (σ : ST) : Nat → Nat → Int32 := σ.2.2.2.2.2.2.1
def st_eJ (σ : ST) : Nat → Nat → Int64 := σ.2.2.2.2.2.2.2.1
def st_eR (σ : ST) : Nat → Nat → Option Nat := σ.2.2.2.2.2.2.2.2
def st_sI (σ : ST) (f a : Nat) (v : Int32) : ST := (st_tg σ, st_cl σ, st_ln σ, fun g b => if g = f ∧ b = a then v else st_I σ g b, st_J σ, st_R σ, st_eI σ, st_eJ σ, st_eR σ)
def st_uI (σ : ST) (a i : Nat) (v : Int32) : ST := (st_tg σ, st_cl σ, st_ln σ, st_I σ, st_J σ, st_R σ, fun b j => if b = a ∧ j = i then v else st_eI σ b j, st_eJ σ, st_eR σ)
def st_sJ (σ : ST) (f a : Nat) (v : Int64) : ST := (st_tg σ, st_cl σ, st_ln σ, st_I σ, fun g b => if g = f ∧ b = a then v else st_J σ g b, st_R σ, st_eI σ, st_eJ σ, st_eR σ)
def st_uJ (σ : ST) (a i : Nat) (v : Int64) : ST := (st_tg σ, st_cl σ, st_ln σ, st_I σ, st_J σ, st_R σ, st_eI σ, fun b j => if b = a ∧ j = i then v else st_eJ σ b j, st_eR σ)
def st_sR (σ : ST) (f a : Nat) (v : Option Nat) : ST := (st_tg σ, st_cl σ, st_ln σ, st_I σ, st_J σ, fun g b => if g = f ∧ b = a then v else st_R σ g b, st_eI σ, st_eJ σ, st_eR σ)
def st_uR (σ : ST) (a i : Nat) (v : Option Nat) : ST := (st_tg σ, st_cl σ, st_ln σ, st_I σ, st_J σ, st_R σ, st_eI σ, st_eJ σ, fun b j => if b = a ∧ j = i then v else st_eR σ b j)
def st_new (σ : ST) (q k : Nat) : ST := (fun b => if b = q then some k else st_tg σ b, st_cl σ, st_ln σ, fun g b => if b = q then 0 else st_I σ g b, fun g b => if b = q then 0 else st_J σ g b, fun g b => if b = q then none else st_R σ g b, st_eI σ, st_eJ σ, st_eR σ)
def st_arr (σ : ST) (q k : Nat) (cA : ClassId) (n : Nat) : ST := (fun b => if b = q then some k else st_tg σ b, fun b => if b = q then cA else st_cl σ b, fun b => if b = q then n else st_ln σ b, st_I σ, st_J σ, st_R σ, fun b j => if b = q then 0 else st_eI σ b j, fun b j => if b = q then 0 else st_eJ σ b j, fun b j => if b = q then none else st_eR σ b j)
theorem g_tg_sI (σ : ST) (f a : Nat) (v : Int32) : st_tg (st_sI σ f a v) = st_tg σ := rfl
theorem g_cl_sI (σ : ST) (f a : Nat) (v : Int32) : st_cl (st_sI σ f a v) = st_cl σ := rfl
theorem g_ln_sI (σ : ST) (f a : Nat) (v : Int32) : st_ln (st_sI σ f a v) = st_ln σ := rfl
theorem g_I_sI (σ : ST) (f a : Nat) (v : Int32) (g b : Nat) : st_I (st_sI σ f a v) g b = if g = f ∧ b = a then v else st_I σ g b := rfl
theorem g_J_sI (σ : ST) (f a : Nat) (v : Int32) : st_J (st_sI σ f a v) = st_J σ := rfl
theorem g_R_sI (σ : ST) (f a : Nat) (v : Int32) : st_R (st_sI σ f a v) = st_R σ := rfl
theorem g_eI_sI (σ : ST) (f a : Nat) (v : Int32) : st_eI (st_sI σ f a v) = st_eI σ := rfl
theorem g_eJ_sI (σ : ST) (f a : Nat) (v : Int32) : st_eJ (st_sI σ f a v) = st_eJ σ := rfl
theorem g_eR_sI (σ : ST) (f a : Nat) (v : Int32) : st_eR (st_sI σ f a v) = st_eR σ := rfl
theorem g_tg_uI (σ : ST) (a i : Nat) (v : Int32) : st_tg (st_uI σ a i v) = st_tg σ := rfl
theorem g_cl_uI (σ : ST) (a i : Nat) (v : Int32) : st_cl (st_uI σ a i v) = st_cl σ := rfl
theorem g_ln_uI (σ : ST) (a i : Nat) (v : Int32) : st_ln (st_uI σ a i v) = st_ln σ := rfl
theorem g_I_uI (σ : ST) (a i : Nat) (v : Int32) : st_I (st_uI σ a i v) = st_I σ := rfl
theorem g_J_uI (σ : ST) (a i : Nat) (v : Int32) : st_J (st_uI σ a i v) = st_J σ := rfl
theorem g_R_uI (σ : ST) (a i : Nat) (v : Int32) : st_R (st_uI σ a i v) = st_R σ := rfl
theorem g_eI_uI (σ : ST) (a i : Nat) (v : Int32) (b j : Nat) : st_eI (st_uI σ a i v) b j = if b = a ∧ j = i then v else st_eI σ b j := rfl
theorem g_eJ_uI (σ : ST) (a i : Nat) (v : Int32) : st_eJ (st_uI σ a i v) = st_eJ σ := rfl
theorem g_eR_uI (σ : ST) (a i : Nat) (v : Int32) : st_eR (st_uI σ a i v) = st_eR σ := rfl
theorem g_tg_sJ (σ : ST) (f a : Nat) (v : Int64) : st_tg (st_sJ σ f a v) = st_tg σ := rfl
theorem g_cl_sJ (σ : ST) (f a : Nat) (v : Int64) : st_cl (st_sJ σ f a v) = st_cl σ := rfl
theorem g_ln_sJ (σ : ST) (f a : Nat) (v : Int64) : st_ln (st_sJ σ f a v) = st_ln σ := rfl
theorem g_I_sJ (σ : ST) (f a : Nat) (v : Int64) : st_I (st_sJ σ f a v) = st_I σ := rfl
theorem g_J_sJ (σ : ST) (f a : Nat) (v : Int64) (g b : Nat) : st_J (st_sJ σ f a v) g b = if g = f ∧ b = a then v else st_J σ g b := rfl
theorem g_R_sJ (σ : ST) (f a : Nat) (v : Int64) : st_R (st_sJ σ f a v) = st_R σ := rfl
theorem g_eI_sJ (σ : ST) (f a : Nat) (v : Int64) : st_eI (st_sJ σ f a v) = st_eI σ := rfl
theorem g_eJ_sJ (σ : ST) (f a : Nat) (v : Int64) : st_eJ (st_sJ σ f a v) = st_eJ σ := rfl
theorem g_eR_sJ (σ : ST) (f a : Nat) (v : Int64) : st_eR (st_sJ σ f a v) = st_eR σ := rfl
theorem g_tg_uJ (σ : ST) (a i : Nat) (v : Int64) : st_tg (st_uJ σ a i v) = st_tg σ := rfl
theorem g_cl_uJ (σ : ST) (a i : Nat) (v : Int64) : st_cl (st_uJ σ a i v) = st_cl σ := rfl
theorem g_ln_uJ (σ : ST) (a i : Nat) (v : Int64) : st_ln (st_uJ σ a i v) = st_ln σ := rfl
theorem g_I_uJ (σ : ST) (a i : Nat) (v : Int64) : st_I (st_uJ σ a i v) = st_I σ := rfl
theorem g_J_uJ (σ : ST) (a i : Nat) (v : Int64) : st_J (st_uJ σ a i v) = st_J σ := rfl
theorem g_R_uJ (σ : ST) (a i : Nat) (v : Int64) : st_R (st_uJ σ a i v) = st_R σ := rfl
theorem g_eI_uJ (σ : ST) (a i : Nat) (v : Int64) : st_eI (st_uJ σ a i v) = st_eI σ := rfl
theorem g_eJ_uJ (σ : ST) (a i : Nat) (v : Int64) (b j : Nat) : st_eJ (st_uJ σ a i v) b j = if b = a ∧ j = i then v else st_eJ σ b j := rfl
theorem g_eR_uJ (σ : ST) (a i : Nat) (v : Int64) : st_eR (st_uJ σ a i v) = st_eR σ := rfl
theorem g_tg_sR (σ : ST) (f a : Nat) (v : Option Nat) : st_tg (st_sR σ f a v) = st_tg σ := rfl
theorem g_cl_sR (σ : ST) (f a : Nat) (v : Option Nat) : st_cl (st_sR σ f a v) = st_cl σ := rfl
theorem g_ln_sR (σ : ST) (f a : Nat) (v : Option Nat) : st_ln (st_sR σ f a v) = st_ln σ := rfl
theorem g_I_sR (σ : ST) (f a : Nat) (v : Option Nat) : st_I (st_sR σ f a v) = st_I σ := rfl
theorem g_J_sR (σ : ST) (f a : Nat) (v : Option Nat) : st_J (st_sR σ f a v) = st_J σ := rfl
theorem g_R_sR (σ : ST) (f a : Nat) (v : Option Nat) (g b : Nat) : st_R (st_sR σ f a v) g b = if g = f ∧ b = a then v else st_R σ g b := rfl
theorem g_eI_sR (σ : ST) (f a : Nat) (v : Option Nat) : st_eI (st_sR σ f a v) = st_eI σ := rfl
theorem g_eJ_sR (σ : ST) (f a : Nat) (v : Option Nat) : st_eJ (st_sR σ f a v) = st_eJ σ := rfl
theorem g_eR_sR (σ : ST) (f a : Nat) (v : Option Nat) : st_eR (st_sR σ f a v) = st_eR σ := rfl
theorem g_tg_uR (σ : ST) (a i : Nat) (v : Option Nat) : st_tg (st_uR σ a i v) = st_tg σ := rfl
theorem g_cl_uR (σ : ST) (a i : Nat) (v : Option Nat) : st_cl (st_uR σ a i v) = st_cl σ := rfl
theorem g_ln_uR (σ : ST) (a i : Nat) (v : Option Nat) : st_ln (st_uR σ a i v) = st_ln σ := rfl
theorem g_I_uR (σ : ST) (a i : Nat) (v : Option Nat) : st_I (st_uR σ a i v) = st_I σ := rfl
theorem g_J_uR (σ : ST) (a i : Nat) (v : Option Nat) : st_J (st_uR σ a i v) = st_J σ := rfl
theorem g_R_uR (σ : ST) (a i : Nat) (v : Option Nat) : st_R (st_uR σ a i v) = st_R σ := rfl
theorem g_eI_uR (σ : ST) (a i : Nat) (v : Option Nat) : st_eI (st_uR σ a i v) = st_eI σ := rfl
theorem g_eJ_uR (σ : ST) (a i : Nat) (v : Option Nat) : st_eJ (st_uR σ a i v) = st_eJ σ := rfl
theorem g_eR_uR (σ : ST) (a i : Nat) (v : Option Nat) (b j : Nat) : st_eR (st_uR σ a i v) b j = if b = a ∧ j = i then v else st_eR σ b j := rfl
theorem g_tg_new (σ : ST) (q k : Nat) (b : Nat) : st_tg (st_new σ q k) b = if b = q then some k else st_tg σ b := rfl
theorem g_cl_new (σ : ST) (q k : Nat) : st_cl (st_new σ q k) = st_cl σ := rfl
theorem g_ln_new (σ : ST) (q k : Nat) : st_ln (st_new σ q k) = st_ln σ := rfl
theorem g_I_new (σ : ST) (q k : Nat) (g b : Nat) : st_I (st_new σ q k) g b = if b = q then 0 else st_I σ g b := rfl
theorem g_J_new (σ : ST) (q k : Nat) (g b : Nat) : st_J (st_new σ q k) g b = if b = q then 0 else st_J σ g b := rfl
theorem g_R_new (σ : ST) (q k : Nat) (g b : Nat) : st_R (st_new σ q k) g b = if b = q then none else st_R σ g b := rfl
theorem g_eI_new (σ : ST) (q k : Nat) : st_eI (st_new σ q k) = st_eI σ := rfl
theorem g_eJ_new (σ : ST) (q k : Nat) : st_eJ (st_new σ q k) = st_eJ σ := rfl
theorem g_eR_new (σ : ST) (q k : Nat) : st_eR (st_new σ q k) = st_eR σ := rfl
theorem g_tg_arr (σ : ST) (q k : Nat) (cA : ClassId) (n : Nat) (b : Nat) : st_tg (st_arr σ q k cA n) b = if b = q then some k else st_tg σ b := rfl
theorem g_cl_arr (σ : ST) (q k : Nat) (cA : ClassId) (n : Nat) (b : Nat) : st_cl (st_arr σ q k cA n) b = if b = q then cA else st_cl σ b := rfl
theorem g_ln_arr (σ : ST) (q k : Nat) (cA : ClassId) (n : Nat) (b : Nat) : st_ln (st_arr σ q k cA n) b = if b = q then n else st_ln σ b := rfl
theorem g_I_arr (σ : ST) (q k : Nat) (cA : ClassId) (n : Nat) : st_I (st_arr σ q k cA n) = st_I σ := rfl
theorem g_J_arr (σ : ST) (q k : Nat) (cA : ClassId) (n : Nat) : st_J (st_arr σ q k cA n) = st_J σ := rfl
theorem g_R_arr (σ : ST) (q k : Nat) (cA : ClassId) (n : Nat) : st_R (st_arr σ q k cA n) = st_R σ := rfl
theorem g_eI_arr (σ : ST) (q k : Nat) (cA : ClassId) (n : Nat) (b j : Nat) : st_eI (st_arr σ q k cA n) b j = if b = q then 0 else st_eI σ b j := rfl
theorem g_eJ_arr (σ : ST) (q k : Nat) (cA : ClassId) (n : Nat) (b j : Nat) : st_eJ (st_arr σ q k cA n) b j = if b = q then 0 else st_eJ σ b j := rfl
theorem g_eR_arr (σ : ST) (q k : Nat) (cA : ClassId) (n : Nat) (b j : Nat) : st_eR (st_arr σ q k cA n) b j = if b = q then none else st_eR σ b j := rfl
abbrev fl_0 (σ : ST) (a : Nat) : List Value := [va_rf (st_R σ 0 a), va_rf (st_R σ 1 a), va_rf (st_R σ 2 a), .int (st_I σ 3 a), va_rf (st_R σ 4 a), .int (st_I σ 5 a), .int (st_I σ 6 a), va_rf (st_R σ 7 a), .int (st_I σ 8 a), va_rf (st_R σ 9 a)]
abbrev fl_1 (σ : ST) (a : Nat) : List Value := [.int (st_I σ 40 a), va_rf (st_R σ 41 a), va_rf (st_R σ 42 a), va_rf (st_R σ 43 a), va_rf (st_R σ 44 a), va_rf (st_R σ 45 a), va_rf (st_R σ 46 a), va_rf (st_R σ 47 a), va_rf (st_R σ 48 a), va_rf (st_R σ 49 a), va_rf (st_R σ 50 a), va_rf (st_R σ 51 a), va_rf (st_R σ 52 a), va_rf (st_R σ 53 a), va_rf (st_R σ 54 a), va_rf (st_R σ 55 a), va_rf (st_R σ 56 a), va_rf (st_R σ 57 a), va_rf (st_R σ 58 a), va_rf (st_R σ 59 a), .int (st_I σ 60 a), .int (st_I σ 61 a), va_rf (st_R σ 62 a), va_rf (st_R σ 63 a), va_rf (st_R σ 64 a), va_rf (st_R σ 65 a), va_rf (st_R σ 66 a), .int (st_I σ 67 a), va_rf (st_R σ 68 a), va_rf (st_R σ 69 a), va_rf (st_R σ 70 a), va_rf (st_R σ 71 a)]
abbrev fl_2 (σ : ST) (a : Nat) : List Value := [va_rf (st_R σ 80 a), .long (st_J σ 81 a), .int (st_I σ 82 a)]
abbrev fl_3 (σ : ST) (a : Nat) : List Value := [.long (st_J σ 120 a)]
abbrev fl_4 (σ : ST) (a : Nat) : List Value := [.int (st_I σ 160 a), .long (st_J σ 161 a), .long (st_J σ 162 a), .int (st_I σ 163 a), .int (st_I σ 164 a), .int (st_I σ 165 a), .long (st_J σ 166 a), .long (st_J σ 167 a), va_rf (st_R σ 168 a)]
abbrev fl_5 (σ : ST) (a : Nat) : List Value := [.int (st_I σ 200 a), va_rf (st_R σ 201 a), .long (st_J σ 202 a), .long (st_J σ 203 a), va_rf (st_R σ 204 a), .int (st_I σ 205 a), .int (st_I σ 206 a), .long (st_J σ 207 a), va_rf (st_R σ 208 a), va_rf (st_R σ 209 a), va_rf (st_R σ 210 a)]
abbrev fl_6 (σ : ST) (a : Nat) : List Value := [.int (st_I σ 240 a), .long (st_J σ 241 a), .int (st_I σ 242 a), .long (st_J σ 243 a), .int (st_I σ 244 a)]
def st_ce (σ : ST) (a k : Nat) : va_E :=
  if k = 0 then .inr (0, fl_0 σ a) else
  if k = 1 then .inr (1, fl_1 σ a) else
  if k = 2 then .inr (2, fl_2 σ a) else
  if k = 3 then .inr (3, fl_3 σ a) else
  if k = 4 then .inr (4, fl_4 σ a) else
  if k = 5 then .inr (5, fl_5 σ a) else
  if k = 6 then .inr (6, fl_6 σ a) else
  if k = 301 then .inl (st_cl σ a, st_ln σ a, .inl (st_eI σ a)) else
  if k = 302 then .inl (st_cl σ a, st_ln σ a, .inr (.inl (st_eJ σ a))) else
  if k = 303 then .inl (st_cl σ a, st_ln σ a, .inl (st_eI σ a)) else
  if k = 312 then .inl (st_cl σ a, st_ln σ a, .inr (.inr (.inr (.inr (st_eR σ a))))) else
  if k = 313 then .inl (st_cl σ a, st_ln σ a, .inr (.inr (.inr (.inr (st_eR σ a))))) else
  if k = 314 then .inl (st_cl σ a, st_ln σ a, .inr (.inr (.inr (.inr (st_eR σ a))))) else
  if k = 315 then .inl (st_cl σ a, st_ln σ a, .inr (.inr (.inr (.inr (st_eR σ a))))) else
  if k = 316 then .inl (st_cl σ a, st_ln σ a, .inr (.inr (.inr (.inr (st_eR σ a))))) else
  .inr (9999, [])
def st_cell (σ : ST) (a : Nat) : Option va_E := (st_tg σ a).map (st_ce σ a)
def st_aty (k : Nat) : Option FieldType :=
  if k = 301 then some (.int) else
  if k = 302 then some (.long) else
  if k = 303 then some (.boolean) else
  if k = 312 then some (.object R_Collected) else
  if k = 313 then some (.object R_Currency) else
  if k = 314 then some (.object R_Office) else
  if k = 315 then some (.object R_Order) else
  if k = 316 then some (.object R_Try) else
  none
theorem cell_0 {σ : ST} {a : Nat} (h : st_tg σ a = some 0) : st_cell σ a = some (.inr (0, fl_0 σ a)) := by unfold st_cell; rw [h]; rfl
theorem cell_1 {σ : ST} {a : Nat} (h : st_tg σ a = some 1) : st_cell σ a = some (.inr (1, fl_1 σ a)) := by unfold st_cell; rw [h]; rfl
theorem cell_2 {σ : ST} {a : Nat} (h : st_tg σ a = some 2) : st_cell σ a = some (.inr (2, fl_2 σ a)) := by unfold st_cell; rw [h]; rfl
theorem cell_3 {σ : ST} {a : Nat} (h : st_tg σ a = some 3) : st_cell σ a = some (.inr (3, fl_3 σ a)) := by unfold st_cell; rw [h]; rfl
theorem cell_4 {σ : ST} {a : Nat} (h : st_tg σ a = some 4) : st_cell σ a = some (.inr (4, fl_4 σ a)) := by unfold st_cell; rw [h]; rfl
theorem cell_5 {σ : ST} {a : Nat} (h : st_tg σ a = some 5) : st_cell σ a = some (.inr (5, fl_5 σ a)) := by unfold st_cell; rw [h]; rfl
theorem cell_6 {σ : ST} {a : Nat} (h : st_tg σ a = some 6) : st_cell σ a = some (.inr (6, fl_6 σ a)) := by unfold st_cell; rw [h]; rfl
theorem cell_301 {σ : ST} {a : Nat} (h : st_tg σ a = some 301) : st_cell σ a = some (.inl (st_cl σ a, st_ln σ a, .inl (st_eI σ a))) := by unfold st_cell; rw [h]; rfl
theorem cell_302 {σ : ST} {a : Nat} (h : st_tg σ a = some 302) : st_cell σ a = some (.inl (st_cl σ a, st_ln σ a, .inr (.inl (st_eJ σ a)))) := by unfold st_cell; rw [h]; rfl
theorem cell_303 {σ : ST} {a : Nat} (h : st_tg σ a = some 303) : st_cell σ a = some (.inl (st_cl σ a, st_ln σ a, .inl (st_eI σ a))) := by unfold st_cell; rw [h]; rfl
theorem cell_312 {σ : ST} {a : Nat} (h : st_tg σ a = some 312) : st_cell σ a = some (.inl (st_cl σ a, st_ln σ a, .inr (.inr (.inr (.inr (st_eR σ a)))))) := by unfold st_cell; rw [h]; rfl
theorem cell_313 {σ : ST} {a : Nat} (h : st_tg σ a = some 313) : st_cell σ a = some (.inl (st_cl σ a, st_ln σ a, .inr (.inr (.inr (.inr (st_eR σ a)))))) := by unfold st_cell; rw [h]; rfl
theorem cell_314 {σ : ST} {a : Nat} (h : st_tg σ a = some 314) : st_cell σ a = some (.inl (st_cl σ a, st_ln σ a, .inr (.inr (.inr (.inr (st_eR σ a)))))) := by unfold st_cell; rw [h]; rfl
theorem cell_315 {σ : ST} {a : Nat} (h : st_tg σ a = some 315) : st_cell σ a = some (.inl (st_cl σ a, st_ln σ a, .inr (.inr (.inr (.inr (st_eR σ a)))))) := by unfold st_cell; rw [h]; rfl
theorem cell_316 {σ : ST} {a : Nat} (h : st_tg σ a = some 316) : st_cell σ a = some (.inl (st_cl σ a, st_ln σ a, .inr (.inr (.inr (.inr (st_eR σ a)))))) := by unfold st_cell; rw [h]; rfl
theorem cell_none {σ : ST} {a : Nat} (h : st_tg σ a = none) : st_cell σ a = none := by unfold st_cell; rw [h]; rfl
theorem cell_sI_ne (σ : ST) (f a : Nat) (v : Int32) {b : Nat} (hb : b ≠ a) : st_cell (st_sI σ f a v) b = st_cell σ b := by
  have e : st_tg (st_sI σ f a v) b = st_tg σ b := by simp only [g_tg_sI, g_cl_sI, g_ln_sI, g_I_sI, g_J_sI, g_R_sI, g_eI_sI, g_eJ_sI, g_eR_sI, g_tg_uI, g_cl_uI, g_ln_uI, g_I_uI, g_J_uI, g_R_uI, g_eI_uI, g_eJ_uI, g_eR_uI, g_tg_sJ, g_cl_sJ, g_ln_sJ, g_I_sJ, g_J_sJ, g_R_sJ, g_eI_sJ, g_eJ_sJ, g_eR_sJ, g_tg_uJ, g_cl_uJ, g_ln_uJ, g_I_uJ, g_J_uJ, g_R_uJ, g_eI_uJ, g_eJ_uJ, g_eR_uJ, g_tg_sR, g_cl_sR, g_ln_sR, g_I_sR, g_J_sR, g_R_sR, g_eI_sR, g_eJ_sR, g_eR_sR, g_tg_uR, g_cl_uR, g_ln_uR, g_I_uR, g_J_uR, g_R_uR, g_eI_uR, g_eJ_uR, g_eR_uR, g_tg_new, g_cl_new, g_ln_new, g_I_new, g_J_new, g_R_new, g_eI_new, g_eJ_new, g_eR_new, g_tg_arr, g_cl_arr, g_ln_arr, g_I_arr, g_J_arr, g_R_arr, g_eI_arr, g_eJ_arr, g_eR_arr, hb, false_and, and_false, if_false, ite_false]
  have eI : st_eI (st_sI σ f a v) b = st_eI σ b := by funext j; simp only [g_tg_sI, g_cl_sI, g_ln_sI, g_I_sI, g_J_sI, g_R_sI, g_eI_sI, g_eJ_sI, g_eR_sI, g_tg_uI, g_cl_uI, g_ln_uI, g_I_uI, g_J_uI, g_R_uI, g_eI_uI, g_eJ_uI, g_eR_uI, g_tg_sJ, g_cl_sJ, g_ln_sJ, g_I_sJ, g_J_sJ, g_R_sJ, g_eI_sJ, g_eJ_sJ, g_eR_sJ, g_tg_uJ, g_cl_uJ, g_ln_uJ, g_I_uJ, g_J_uJ, g_R_uJ, g_eI_uJ, g_eJ_uJ, g_eR_uJ, g_tg_sR, g_cl_sR, g_ln_sR, g_I_sR, g_J_sR, g_R_sR, g_eI_sR, g_eJ_sR, g_eR_sR, g_tg_uR, g_cl_uR, g_ln_uR, g_I_uR, g_J_uR, g_R_uR, g_eI_uR, g_eJ_uR, g_eR_uR, g_tg_new, g_cl_new, g_ln_new, g_I_new, g_J_new, g_R_new, g_eI_new, g_eJ_new, g_eR_new, g_tg_arr, g_cl_arr, g_ln_arr, g_I_arr, g_J_arr, g_R_arr, g_eI_arr, g_eJ_arr, g_eR_arr, hb, false_and, and_false, if_false, ite_false]
  have eJ : st_eJ (st_sI σ f a v) b = st_eJ σ b := by funext j; simp only [g_tg_sI, g_cl_sI, g_ln_sI, g_I_sI, g_J_sI, g_R_sI, g_eI_sI, g_eJ_sI, g_eR_sI, g_tg_uI, g_cl_uI, g_ln_uI, g_I_uI, g_J_uI, g_R_uI, g_eI_uI, g_eJ_uI, g_eR_uI, g_tg_sJ, g_cl_sJ, g_ln_sJ, g_I_sJ, g_J_sJ, g_R_sJ, g_eI_sJ, g_eJ_sJ, g_eR_sJ, g_tg_uJ, g_cl_uJ, g_ln_uJ, g_I_uJ, g_J_uJ, g_R_uJ, g_eI_uJ, g_eJ_uJ, g_eR_uJ, g_tg_sR, g_cl_sR, g_ln_sR, g_I_sR, g_J_sR, g_R_sR, g_eI_sR, g_eJ_sR, g_eR_sR, g_tg_uR, g_cl_uR, g_ln_uR, g_I_uR, g_J_uR, g_R_uR, g_eI_uR, g_eJ_uR, g_eR_uR, g_tg_new, g_cl_new, g_ln_new, g_I_new, g_J_new, g_R_new, g_eI_new, g_eJ_new, g_eR_new, g_tg_arr, g_cl_arr, g_ln_arr, g_I_arr, g_J_arr, g_R_arr, g_eI_arr, g_eJ_arr, g_eR_arr, hb, false_and, and_false, if_false, ite_false]
  have eR : st_eR (st_sI σ f a v) b = st_eR σ b := by funext j; simp only [g_tg_sI, g_cl_sI, g_ln_sI, g_I_sI, g_J_sI, g_R_sI, g_eI_sI, g_eJ_sI, g_eR_sI, g_tg_uI, g_cl_uI, g_ln_uI, g_I_uI, g_J_uI, g_R_uI, g_eI_uI, g_eJ_uI, g_eR_uI, g_tg_sJ, g_cl_sJ, g_ln_sJ, g_I_sJ, g_J_sJ, g_R_sJ, g_eI_sJ, g_eJ_sJ, g_eR_sJ, g_tg_uJ, g_cl_uJ, g_ln_uJ, g_I_uJ, g_J_uJ, g_R_uJ, g_eI_uJ, g_eJ_uJ, g_eR_uJ, g_tg_sR, g_cl_sR, g_ln_sR, g_I_sR, g_J_sR, g_R_sR, g_eI_sR, g_eJ_sR, g_eR_sR, g_tg_uR, g_cl_uR, g_ln_uR, g_I_uR, g_J_uR, g_R_uR, g_eI_uR, g_eJ_uR, g_eR_uR, g_tg_new, g_cl_new, g_ln_new, g_I_new, g_J_new, g_R_new, g_eI_new, g_eJ_new, g_eR_new, g_tg_arr, g_cl_arr, g_ln_arr, g_I_arr, g_J_arr, g_R_arr, g_eI_arr, g_eJ_arr, g_eR_arr, hb, false_and, and_false, if_false, ite_false]
  have e2 : ∀ kz, st_ce (st_sI σ f a v) b kz = st_ce σ b kz := fun kz => by simp only [st_ce, fl_0, fl_1, fl_2, fl_3, fl_4, fl_5, fl_6, eI, eJ, eR, g_tg_sI, g_cl_sI, g_ln_sI, g_I_sI, g_J_sI, g_R_sI, g_eI_sI, g_eJ_sI, g_eR_sI, g_tg_uI, g_cl_uI, g_ln_uI, g_I_uI, g_J_uI, g_R_uI, g_eI_uI, g_eJ_uI, g_eR_uI, g_tg_sJ, g_cl_sJ, g_ln_sJ, g_I_sJ, g_J_sJ, g_R_sJ, g_eI_sJ, g_eJ_sJ, g_eR_sJ, g_tg_uJ, g_cl_uJ, g_ln_uJ, g_I_uJ, g_J_uJ, g_R_uJ, g_eI_uJ, g_eJ_uJ, g_eR_uJ, g_tg_sR, g_cl_sR, g_ln_sR, g_I_sR, g_J_sR, g_R_sR, g_eI_sR, g_eJ_sR, g_eR_sR, g_tg_uR, g_cl_uR, g_ln_uR, g_I_uR, g_J_uR, g_R_uR, g_eI_uR, g_eJ_uR, g_eR_uR, g_tg_new, g_cl_new, g_ln_new, g_I_new, g_J_new, g_R_new, g_eI_new, g_eJ_new, g_eR_new, g_tg_arr, g_cl_arr, g_ln_arr, g_I_arr, g_J_arr, g_R_arr, g_eI_arr, g_eJ_arr, g_eR_arr, hb, false_and, and_false, if_false, ite_false]
  unfold st_cell
  rw [e]
  cases st_tg σ b with
  | none => rfl
  | some k => exact congrArg some (e2 k)
theorem cell_uI_ne (σ : ST) (a i : Nat) (v : Int32) {b : Nat} (hb : b ≠ a) : st_cell (st_uI σ a i v) b = st_cell σ b := by
  have e : st_tg (st_uI σ a i v) b = st_tg σ b := by simp only [g_tg_sI, g_cl_sI, g_ln_sI, g_I_sI, g_J_sI, g_R_sI, g_eI_sI, g_eJ_sI, g_eR_sI, g_tg_uI, g_cl_uI, g_ln_uI, g_I_uI, g_J_uI, g_R_uI, g_eI_uI, g_eJ_uI, g_eR_uI, g_tg_sJ, g_cl_sJ, g_ln_sJ, g_I_sJ, g_J_sJ, g_R_sJ, g_eI_sJ, g_eJ_sJ, g_eR_sJ, g_tg_uJ, g_cl_uJ, g_ln_uJ, g_I_uJ, g_J_uJ, g_R_uJ, g_eI_uJ, g_eJ_uJ, g_eR_uJ, g_tg_sR, g_cl_sR, g_ln_sR, g_I_sR, g_J_sR, g_R_sR, g_eI_sR, g_eJ_sR, g_eR_sR, g_tg_uR, g_cl_uR, g_ln_uR, g_I_uR, g_J_uR, g_R_uR, g_eI_uR, g_eJ_uR, g_eR_uR, g_tg_new, g_cl_new, g_ln_new, g_I_new, g_J_new, g_R_new, g_eI_new, g_eJ_new, g_eR_new, g_tg_arr, g_cl_arr, g_ln_arr, g_I_arr, g_J_arr, g_R_arr, g_eI_arr, g_eJ_arr, g_eR_arr, hb, false_and, and_false, if_false, ite_false]
  have eI : st_eI (st_uI σ a i v) b = st_eI σ b := by funext j; simp only [g_tg_sI, g_cl_sI, g_ln_sI, g_I_sI, g_J_sI, g_R_sI, g_eI_sI, g_eJ_sI, g_eR_sI, g_tg_uI, g_cl_uI, g_ln_uI, g_I_uI, g_J_uI, g_R_uI, g_eI_uI, g_eJ_uI, g_eR_uI, g_tg_sJ, g_cl_sJ, g_ln_sJ, g_I_sJ, g_J_sJ, g_R_sJ, g_eI_sJ, g_eJ_sJ, g_eR_sJ, g_tg_uJ, g_cl_uJ, g_ln_uJ, g_I_uJ, g_J_uJ, g_R_uJ, g_eI_uJ, g_eJ_uJ, g_eR_uJ, g_tg_sR, g_cl_sR, g_ln_sR, g_I_sR, g_J_sR, g_R_sR, g_eI_sR, g_eJ_sR, g_eR_sR, g_tg_uR, g_cl_uR, g_ln_uR, g_I_uR, g_J_uR, g_R_uR, g_eI_uR, g_eJ_uR, g_eR_uR, g_tg_new, g_cl_new, g_ln_new, g_I_new, g_J_new, g_R_new, g_eI_new, g_eJ_new, g_eR_new, g_tg_arr, g_cl_arr, g_ln_arr, g_I_arr, g_J_arr, g_R_arr, g_eI_arr, g_eJ_arr, g_eR_arr, hb, false_and, and_false, if_false, ite_false]
  have eJ : st_eJ (st_uI σ a i v) b = st_eJ σ b := by funext j; simp only [g_tg_sI, g_cl_sI, g_ln_sI, g_I_sI, g_J_sI, g_R_sI, g_eI_sI, g_eJ_sI, g_eR_sI, g_tg_uI, g_cl_uI, g_ln_uI, g_I_uI, g_J_uI, g_R_uI, g_eI_uI, g_eJ_uI, g_eR_uI, g_tg_sJ, g_cl_sJ, g_ln_sJ, g_I_sJ, g_J_sJ, g_R_sJ, g_eI_sJ, g_eJ_sJ, g_eR_sJ, g_tg_uJ, g_cl_uJ, g_ln_uJ, g_I_uJ, g_J_uJ, g_R_uJ, g_eI_uJ, g_eJ_uJ, g_eR_uJ, g_tg_sR, g_cl_sR, g_ln_sR, g_I_sR, g_J_sR, g_R_sR, g_eI_sR, g_eJ_sR, g_eR_sR, g_tg_uR, g_cl_uR, g_ln_uR, g_I_uR, g_J_uR, g_R_uR, g_eI_uR, g_eJ_uR, g_eR_uR, g_tg_new, g_cl_new, g_ln_new, g_I_new, g_J_new, g_R_new, g_eI_new, g_eJ_new, g_eR_new, g_tg_arr, g_cl_arr, g_ln_arr, g_I_arr, g_J_arr, g_R_arr, g_eI_arr, g_eJ_arr, g_eR_arr, hb, false_and, and_false, if_false, ite_false]
  have eR : st_eR (st_uI σ a i v) b = st_eR σ b := by funext j; simp only [g_tg_sI, g_cl_sI, g_ln_sI, g_I_sI, g_J_sI, g_R_sI, g_eI_sI, g_eJ_sI, g_eR_sI, g_tg_uI, g_cl_uI, g_ln_uI, g_I_uI, g_J_uI, g_R_uI, g_eI_uI, g_eJ_uI, g_eR_uI, g_tg_sJ, g_cl_sJ, g_ln_sJ, g_I_sJ, g_J_sJ, g_R_sJ, g_eI_sJ, g_eJ_sJ, g_eR_sJ, g_tg_uJ, g_cl_uJ, g_ln_uJ, g_I_uJ, g_J_uJ, g_R_uJ, g_eI_uJ, g_eJ_uJ, g_eR_uJ, g_tg_sR, g_cl_sR, g_ln_sR, g_I_sR, g_J_sR, g_R_sR, g_eI_sR, g_eJ_sR, g_eR_sR, g_tg_uR, g_cl_uR, g_ln_uR, g_I_uR, g_J_uR, g_R_uR, g_eI_uR, g_eJ_uR, g_eR_uR, g_tg_new, g_cl_new, g_ln_new, g_I_new, g_J_new, g_R_new, g_eI_new, g_eJ_new, g_eR_new, g_tg_arr, g_cl_arr, g_ln_arr, g_I_arr, g_J_arr, g_R_arr, g_eI_arr, g_eJ_arr, g_eR_arr, hb, false_and, and_false, if_false, ite_false]
  have e2 : ∀ kz, st_ce (st_uI σ a i v) b kz = st_ce σ b kz := fun kz => by simp only [st_ce, fl_0, fl_1, fl_2, fl_3, fl_4, fl_5, fl_6, eI, eJ, eR, g_tg_sI, g_cl_sI, g_ln_sI, g_I_sI, g_J_sI, g_R_sI, g_eI_sI, g_eJ_sI, g_eR_sI, g_tg_uI, g_cl_uI, g_ln_uI, g_I_uI, g_J_uI, g_R_uI, g_eI_uI, g_eJ_uI, g_eR_uI, g_tg_sJ, g_cl_sJ, g_ln_sJ, g_I_sJ, g_J_sJ, g_R_sJ, g_eI_sJ, g_eJ_sJ, g_eR_sJ, g_tg_uJ, g_cl_uJ, g_ln_uJ, g_I_uJ, g_J_uJ, g_R_uJ, g_eI_uJ, g_eJ_uJ, g_eR_uJ, g_tg_sR, g_cl_sR, g_ln_sR, g_I_sR, g_J_sR, g_R_sR, g_eI_sR, g_eJ_sR, g_eR_sR, g_tg_uR, g_cl_uR, g_ln_uR, g_I_uR, g_J_uR, g_R_uR, g_eI_uR, g_eJ_uR, g_eR_uR, g_tg_new, g_cl_new, g_ln_new, g_I_new, g_J_new, g_R_new, g_eI_new, g_eJ_new, g_eR_new, g_tg_arr, g_cl_arr, g_ln_arr, g_I_arr, g_J_arr, g_R_arr, g_eI_arr, g_eJ_arr, g_eR_arr, hb, false_and, and_false, if_false, ite_false]
  unfold st_cell
  rw [e]
  cases st_tg σ b with
  | none => rfl
  | some k => exact congrArg some (e2 k)
theorem cell_sJ_ne (σ : ST) (f a : Nat) (v : Int64) {b : Nat} (hb : b ≠ a) : st_cell (st_sJ σ f a v) b = st_cell σ b := by
  have e : st_tg (st_sJ σ f a v) b = st_tg σ b := by simp only [g_tg_sI, g_cl_sI, g_ln_sI, g_I_sI, g_J_sI, g_R_sI, g_eI_sI, g_eJ_sI, g_eR_sI, g_tg_uI, g_cl_uI, g_ln_uI, g_I_uI, g_J_uI, g_R_uI, g_eI_uI, g_eJ_uI, g_eR_uI, g_tg_sJ, g_cl_sJ, g_ln_sJ, g_I_sJ, g_J_sJ, g_R_sJ, g_eI_sJ, g_eJ_sJ, g_eR_sJ, g_tg_uJ, g_cl_uJ, g_ln_uJ, g_I_uJ, g_J_uJ, g_R_uJ, g_eI_uJ, g_eJ_uJ, g_eR_uJ, g_tg_sR, g_cl_sR, g_ln_sR, g_I_sR, g_J_sR, g_R_sR, g_eI_sR, g_eJ_sR, g_eR_sR, g_tg_uR, g_cl_uR, g_ln_uR, g_I_uR, g_J_uR, g_R_uR, g_eI_uR, g_eJ_uR, g_eR_uR, g_tg_new, g_cl_new, g_ln_new, g_I_new, g_J_new, g_R_new, g_eI_new, g_eJ_new, g_eR_new, g_tg_arr, g_cl_arr, g_ln_arr, g_I_arr, g_J_arr, g_R_arr, g_eI_arr, g_eJ_arr, g_eR_arr, hb, false_and, and_false, if_false, ite_false]
  have eI : st_eI (st_sJ σ f a v) b = st_eI σ b := by funext j; simp only [g_tg_sI, g_cl_sI, g_ln_sI, g_I_sI, g_J_sI, g_R_sI, g_eI_sI, g_eJ_sI, g_eR_sI, g_tg_uI, g_cl_uI, g_ln_uI, g_I_uI, g_J_uI, g_R_uI, g_eI_uI, g_eJ_uI, g_eR_uI, g_tg_sJ, g_cl_sJ, g_ln_sJ, g_I_sJ, g_J_sJ, g_R_sJ, g_eI_sJ, g_eJ_sJ, g_eR_sJ, g_tg_uJ, g_cl_uJ, g_ln_uJ, g_I_uJ, g_J_uJ, g_R_uJ, g_eI_uJ, g_eJ_uJ, g_eR_uJ, g_tg_sR, g_cl_sR, g_ln_sR, g_I_sR, g_J_sR, g_R_sR, g_eI_sR, g_eJ_sR, g_eR_sR, g_tg_uR, g_cl_uR, g_ln_uR, g_I_uR, g_J_uR, g_R_uR, g_eI_uR, g_eJ_uR, g_eR_uR, g_tg_new, g_cl_new, g_ln_new, g_I_new, g_J_new, g_R_new, g_eI_new, g_eJ_new, g_eR_new, g_tg_arr, g_cl_arr, g_ln_arr, g_I_arr, g_J_arr, g_R_arr, g_eI_arr, g_eJ_arr, g_eR_arr, hb, false_and, and_false, if_false, ite_false]
  have eJ : st_eJ (st_sJ σ f a v) b = st_eJ σ b := by funext j; simp only [g_tg_sI, g_cl_sI, g_ln_sI, g_I_sI, g_J_sI, g_R_sI, g_eI_sI, g_eJ_sI, g_eR_sI, g_tg_uI, g_cl_uI, g_ln_uI, g_I_uI, g_J_uI, g_R_uI, g_eI_uI, g_eJ_uI, g_eR_uI, g_tg_sJ, g_cl_sJ, g_ln_sJ, g_I_sJ, g_J_sJ, g_R_sJ, g_eI_sJ, g_eJ_sJ, g_eR_sJ, g_tg_uJ, g_cl_uJ, g_ln_uJ, g_I_uJ, g_J_uJ, g_R_uJ, g_eI_uJ, g_eJ_uJ, g_eR_uJ, g_tg_sR, g_cl_sR, g_ln_sR, g_I_sR, g_J_sR, g_R_sR, g_eI_sR, g_eJ_sR, g_eR_sR, g_tg_uR, g_cl_uR, g_ln_uR, g_I_uR, g_J_uR, g_R_uR, g_eI_uR, g_eJ_uR, g_eR_uR, g_tg_new, g_cl_new, g_ln_new, g_I_new, g_J_new, g_R_new, g_eI_new, g_eJ_new, g_eR_new, g_tg_arr, g_cl_arr, g_ln_arr, g_I_arr, g_J_arr, g_R_arr, g_eI_arr, g_eJ_arr, g_eR_arr, hb, false_and, and_false, if_false, ite_false]
  have eR : st_eR (st_sJ σ f a v) b = st_eR σ b := by funext j; simp only [g_tg_sI, g_cl_sI, g_ln_sI, g_I_sI, g_J_sI, g_R_sI, g_eI_sI, g_eJ_sI, g_eR_sI, g_tg_uI, g_cl_uI, g_ln_uI, g_I_uI, g_J_uI, g_R_uI, g_eI_uI, g_eJ_uI, g_eR_uI, g_tg_sJ, g_cl_sJ, g_ln_sJ, g_I_sJ, g_J_sJ, g_R_sJ, g_eI_sJ, g_eJ_sJ, g_eR_sJ, g_tg_uJ, g_cl_uJ, g_ln_uJ, g_I_uJ, g_J_uJ, g_R_uJ, g_eI_uJ, g_eJ_uJ, g_eR_uJ, g_tg_sR, g_cl_sR, g_ln_sR, g_I_sR, g_J_sR, g_R_sR, g_eI_sR, g_eJ_sR, g_eR_sR, g_tg_uR, g_cl_uR, g_ln_uR, g_I_uR, g_J_uR, g_R_uR, g_eI_uR, g_eJ_uR, g_eR_uR, g_tg_new, g_cl_new, g_ln_new, g_I_new, g_J_new, g_R_new, g_eI_new, g_eJ_new, g_eR_new, g_tg_arr, g_cl_arr, g_ln_arr, g_I_arr, g_J_arr, g_R_arr, g_eI_arr, g_eJ_arr, g_eR_arr, hb, false_and, and_false, if_false, ite_false]
  have e2 : ∀ kz, st_ce (st_sJ σ f a v) b kz = st_ce σ b kz := fun kz => by simp only [st_ce, fl_0, fl_1, fl_2, fl_3, fl_4, fl_5, fl_6, eI, eJ, eR, g_tg_sI, g_cl_sI, g_ln_sI, g_I_sI, g_J_sI, g_R_sI, g_eI_sI, g_eJ_sI, g_eR_sI, g_tg_uI, g_cl_uI, g_ln_uI, g_I_uI, g_J_uI, g_R_uI, g_eI_uI, g_eJ_uI, g_eR_uI, g_tg_sJ, g_cl_sJ, g_ln_sJ, g_I_sJ, g_J_sJ, g_R_sJ, g_eI_sJ, g_eJ_sJ, g_eR_sJ, g_tg_uJ, g_cl_uJ, g_ln_uJ, g_I_uJ, g_J_uJ, g_R_uJ, g_eI_uJ, g_eJ_uJ, g_eR_uJ, g_tg_sR, g_cl_sR, g_ln_sR, g_I_sR, g_J_sR, g_R_sR, g_eI_sR, g_eJ_sR, g_eR_sR, g_tg_uR, g_cl_uR, g_ln_uR, g_I_uR, g_J_uR, g_R_uR, g_eI_uR, g_eJ_uR, g_eR_uR, g_tg_new, g_cl_new, g_ln_new, g_I_new, g_J_new, g_R_new, g_eI_new, g_eJ_new, g_eR_new, g_tg_arr, g_cl_arr, g_ln_arr, g_I_arr, g_J_arr, g_R_arr, g_eI_arr, g_eJ_arr, g_eR_arr, hb, false_and, and_false, if_false, ite_false]
  unfold st_cell
  rw [e]
  cases st_tg σ b with
  | none => rfl
  | some k => exact congrArg some (e2 k)
theorem cell_uJ_ne (σ : ST) (a i : Nat) (v : Int64) {b : Nat} (hb : b ≠ a) : st_cell (st_uJ σ a i v) b = st_cell σ b := by
  have e : st_tg (st_uJ σ a i v) b = st_tg σ b := by simp only [g_tg_sI, g_cl_sI, g_ln_sI, g_I_sI, g_J_sI, g_R_sI, g_eI_sI, g_eJ_sI, g_eR_sI, g_tg_uI, g_cl_uI, g_ln_uI, g_I_uI, g_J_uI, g_R_uI, g_eI_uI, g_eJ_uI, g_eR_uI, g_tg_sJ, g_cl_sJ, g_ln_sJ, g_I_sJ, g_J_sJ, g_R_sJ, g_eI_sJ, g_eJ_sJ, g_eR_sJ, g_tg_uJ, g_cl_uJ, g_ln_uJ, g_I_uJ, g_J_uJ, g_R_uJ, g_eI_uJ, g_eJ_uJ, g_eR_uJ, g_tg_sR, g_cl_sR, g_ln_sR, g_I_sR, g_J_sR, g_R_sR, g_eI_sR, g_eJ_sR, g_eR_sR, g_tg_uR, g_cl_uR, g_ln_uR, g_I_uR, g_J_uR, g_R_uR, g_eI_uR, g_eJ_uR, g_eR_uR, g_tg_new, g_cl_new, g_ln_new, g_I_new, g_J_new, g_R_new, g_eI_new, g_eJ_new, g_eR_new, g_tg_arr, g_cl_arr, g_ln_arr, g_I_arr, g_J_arr, g_R_arr, g_eI_arr, g_eJ_arr, g_eR_arr, hb, false_and, and_false, if_false, ite_false]
  have eI : st_eI (st_uJ σ a i v) b = st_eI σ b := by funext j; simp only [g_tg_sI, g_cl_sI, g_ln_sI, g_I_sI, g_J_sI, g_R_sI, g_eI_sI, g_eJ_sI, g_eR_sI, g_tg_uI, g_cl_uI, g_ln_uI, g_I_uI, g_J_uI, g_R_uI, g_eI_uI, g_eJ_uI, g_eR_uI, g_tg_sJ, g_cl_sJ, g_ln_sJ, g_I_sJ, g_J_sJ, g_R_sJ, g_eI_sJ, g_eJ_sJ, g_eR_sJ, g_tg_uJ, g_cl_uJ, g_ln_uJ, g_I_uJ, g_J_uJ, g_R_uJ, g_eI_uJ, g_eJ_uJ, g_eR_uJ, g_tg_sR, g_cl_sR, g_ln_sR, g_I_sR, g_J_sR, g_R_sR, g_eI_sR, g_eJ_sR, g_eR_sR, g_tg_uR, g_cl_uR, g_ln_uR, g_I_uR, g_J_uR, g_R_uR, g_eI_uR, g_eJ_uR, g_eR_uR, g_tg_new, g_cl_new, g_ln_new, g_I_new, g_J_new, g_R_new, g_eI_new, g_eJ_new, g_eR_new, g_tg_arr, g_cl_arr, g_ln_arr, g_I_arr, g_J_arr, g_R_arr, g_eI_arr, g_eJ_arr, g_eR_arr, hb, false_and, and_false, if_false, ite_false]
  have eJ : st_eJ (st_uJ σ a i v) b = st_eJ σ b := by funext j; simp only [g_tg_sI, g_cl_sI, g_ln_sI, g_I_sI, g_J_sI, g_R_sI, g_eI_sI, g_eJ_sI, g_eR_sI, g_tg_uI, g_cl_uI, g_ln_uI, g_I_uI, g_J_uI, g_R_uI, g_eI_uI, g_eJ_uI, g_eR_uI, g_tg_sJ, g_cl_sJ, g_ln_sJ, g_I_sJ, g_J_sJ, g_R_sJ, g_eI_sJ, g_eJ_sJ, g_eR_sJ, g_tg_uJ, g_cl_uJ, g_ln_uJ, g_I_uJ, g_J_uJ, g_R_uJ, g_eI_uJ, g_eJ_uJ, g_eR_uJ, g_tg_sR, g_cl_sR, g_ln_sR, g_I_sR, g_J_sR, g_R_sR, g_eI_sR, g_eJ_sR, g_eR_sR, g_tg_uR, g_cl_uR, g_ln_uR, g_I_uR, g_J_uR, g_R_uR, g_eI_uR, g_eJ_uR, g_eR_uR, g_tg_new, g_cl_new, g_ln_new, g_I_new, g_J_new, g_R_new, g_eI_new, g_eJ_new, g_eR_new, g_tg_arr, g_cl_arr, g_ln_arr, g_I_arr, g_J_arr, g_R_arr, g_eI_arr, g_eJ_arr, g_eR_arr, hb, false_and, and_false, if_false, ite_false]
  have eR : st_eR (st_uJ σ a i v) b = st_eR σ b := by funext j; simp only [g_tg_sI, g_cl_sI, g_ln_sI, g_I_sI, g_J_sI, g_R_sI, g_eI_sI, g_eJ_sI, g_eR_sI, g_tg_uI, g_cl_uI, g_ln_uI, g_I_uI, g_J_uI, g_R_uI, g_eI_uI, g_eJ_uI, g_eR_uI, g_tg_sJ, g_cl_sJ, g_ln_sJ, g_I_sJ, g_J_sJ, g_R_sJ, g_eI_sJ, g_eJ_sJ, g_eR_sJ, g_tg_uJ, g_cl_uJ, g_ln_uJ, g_I_uJ, g_J_uJ, g_R_uJ, g_eI_uJ, g_eJ_uJ, g_eR_uJ, g_tg_sR, g_cl_sR, g_ln_sR, g_I_sR, g_J_sR, g_R_sR, g_eI_sR, g_eJ_sR, g_eR_sR, g_tg_uR, g_cl_uR, g_ln_uR, g_I_uR, g_J_uR, g_R_uR, g_eI_uR, g_eJ_uR, g_eR_uR, g_tg_new, g_cl_new, g_ln_new, g_I_new, g_J_new, g_R_new, g_eI_new, g_eJ_new, g_eR_new, g_tg_arr, g_cl_arr, g_ln_arr, g_I_arr, g_J_arr, g_R_arr, g_eI_arr, g_eJ_arr, g_eR_arr, hb, false_and, and_false, if_false, ite_false]
  have e2 : ∀ kz, st_ce (st_uJ σ a i v) b kz = st_ce σ b kz := fun kz => by simp only [st_ce, fl_0, fl_1, fl_2, fl_3, fl_4, fl_5, fl_6, eI, eJ, eR, g_tg_sI, g_cl_sI, g_ln_sI, g_I_sI, g_J_sI, g_R_sI, g_eI_sI, g_eJ_sI, g_eR_sI, g_tg_uI, g_cl_uI, g_ln_uI, g_I_uI, g_J_uI, g_R_uI, g_eI_uI, g_eJ_uI, g_eR_uI, g_tg_sJ, g_cl_sJ, g_ln_sJ, g_I_sJ, g_J_sJ, g_R_sJ, g_eI_sJ, g_eJ_sJ, g_eR_sJ, g_tg_uJ, g_cl_uJ, g_ln_uJ, g_I_uJ, g_J_uJ, g_R_uJ, g_eI_uJ, g_eJ_uJ, g_eR_uJ, g_tg_sR, g_cl_sR, g_ln_sR, g_I_sR, g_J_sR, g_R_sR, g_eI_sR, g_eJ_sR, g_eR_sR, g_tg_uR, g_cl_uR, g_ln_uR, g_I_uR, g_J_uR, g_R_uR, g_eI_uR, g_eJ_uR, g_eR_uR, g_tg_new, g_cl_new, g_ln_new, g_I_new, g_J_new, g_R_new, g_eI_new, g_eJ_new, g_eR_new, g_tg_arr, g_cl_arr, g_ln_arr, g_I_arr, g_J_arr, g_R_arr, g_eI_arr, g_eJ_arr, g_eR_arr, hb, false_and, and_false, if_false, ite_false]
  unfold st_cell
  rw [e]
  cases st_tg σ b with
  | none => rfl
  | some k => exact congrArg some (e2 k)
theorem cell_sR_ne (σ : ST) (f a : Nat) (v : Option Nat) {b : Nat} (hb : b ≠ a) : st_cell (st_sR σ f a v) b = st_cell σ b := by
  have e : st_tg (st_sR σ f a v) b = st_tg σ b := by simp only [g_tg_sI, g_cl_sI, g_ln_sI, g_I_sI, g_J_sI, g_R_sI, g_eI_sI, g_eJ_sI, g_eR_sI, g_tg_uI, g_cl_uI, g_ln_uI, g_I_uI, g_J_uI, g_R_uI, g_eI_uI, g_eJ_uI, g_eR_uI, g_tg_sJ, g_cl_sJ, g_ln_sJ, g_I_sJ, g_J_sJ, g_R_sJ, g_eI_sJ, g_eJ_sJ, g_eR_sJ, g_tg_uJ, g_cl_uJ, g_ln_uJ, g_I_uJ, g_J_uJ, g_R_uJ, g_eI_uJ, g_eJ_uJ, g_eR_uJ, g_tg_sR, g_cl_sR, g_ln_sR, g_I_sR, g_J_sR, g_R_sR, g_eI_sR, g_eJ_sR, g_eR_sR, g_tg_uR, g_cl_uR, g_ln_uR, g_I_uR, g_J_uR, g_R_uR, g_eI_uR, g_eJ_uR, g_eR_uR, g_tg_new, g_cl_new, g_ln_new, g_I_new, g_J_new, g_R_new, g_eI_new, g_eJ_new, g_eR_new, g_tg_arr, g_cl_arr, g_ln_arr, g_I_arr, g_J_arr, g_R_arr, g_eI_arr, g_eJ_arr, g_eR_arr, hb, false_and, and_false, if_false, ite_false]
  have eI : st_eI (st_sR σ f a v) b = st_eI σ b := by funext j; simp only [g_tg_sI, g_cl_sI, g_ln_sI, g_I_sI, g_J_sI, g_R_sI, g_eI_sI, g_eJ_sI, g_eR_sI, g_tg_uI, g_cl_uI, g_ln_uI, g_I_uI, g_J_uI, g_R_uI, g_eI_uI, g_eJ_uI, g_eR_uI, g_tg_sJ, g_cl_sJ, g_ln_sJ, g_I_sJ, g_J_sJ, g_R_sJ, g_eI_sJ, g_eJ_sJ, g_eR_sJ, g_tg_uJ, g_cl_uJ, g_ln_uJ, g_I_uJ, g_J_uJ, g_R_uJ, g_eI_uJ, g_eJ_uJ, g_eR_uJ, g_tg_sR, g_cl_sR, g_ln_sR, g_I_sR, g_J_sR, g_R_sR, g_eI_sR, g_eJ_sR, g_eR_sR, g_tg_uR, g_cl_uR, g_ln_uR, g_I_uR, g_J_uR, g_R_uR, g_eI_uR, g_eJ_uR, g_eR_uR, g_tg_new, g_cl_new, g_ln_new, g_I_new, g_J_new, g_R_new, g_eI_new, g_eJ_new, g_eR_new, g_tg_arr, g_cl_arr, g_ln_arr, g_I_arr, g_J_arr, g_R_arr, g_eI_arr, g_eJ_arr, g_eR_arr, hb, false_and, and_false, if_false, ite_false]
  have eJ : st_eJ (st_sR σ f a v) b = st_eJ σ b := by funext j; simp only [g_tg_sI, g_cl_sI, g_ln_sI, g_I_sI, g_J_sI, g_R_sI, g_eI_sI, g_eJ_sI, g_eR_sI, g_tg_uI, g_cl_uI, g_ln_uI, g_I_uI, g_J_uI, g_R_uI, g_eI_uI, g_eJ_uI, g_eR_uI, g_tg_sJ, g_cl_sJ, g_ln_sJ, g_I_sJ, g_J_sJ, g_R_sJ, g_eI_sJ, g_eJ_sJ, g_eR_sJ, g_tg_uJ, g_cl_uJ, g_ln_uJ, g_I_uJ, g_J_uJ, g_R_uJ, g_eI_uJ, g_eJ_uJ, g_eR_uJ, g_tg_sR, g_cl_sR, g_ln_sR, g_I_sR, g_J_sR, g_R_sR, g_eI_sR, g_eJ_sR, g_eR_sR, g_tg_uR, g_cl_uR, g_ln_uR, g_I_uR, g_J_uR, g_R_uR, g_eI_uR, g_eJ_uR, g_eR_uR, g_tg_new, g_cl_new, g_ln_new, g_I_new, g_J_new, g_R_new, g_eI_new, g_eJ_new, g_eR_new, g_tg_arr, g_cl_arr, g_ln_arr, g_I_arr, g_J_arr, g_R_arr, g_eI_arr, g_eJ_arr, g_eR_arr, hb, false_and, and_false, if_false, ite_false]
  have eR : st_eR (st_sR σ f a v) b = st_eR σ b := by funext j; simp only [g_tg_sI, g_cl_sI, g_ln_sI, g_I_sI, g_J_sI, g_R_sI, g_eI_sI, g_eJ_sI, g_eR_sI, g_tg_uI, g_cl_uI, g_ln_uI, g_I_uI, g_J_uI, g_R_uI, g_eI_uI, g_eJ_uI, g_eR_uI, g_tg_sJ, g_cl_sJ, g_ln_sJ, g_I_sJ, g_J_sJ, g_R_sJ, g_eI_sJ, g_eJ_sJ, g_eR_sJ, g_tg_uJ, g_cl_uJ, g_ln_uJ, g_I_uJ, g_J_uJ, g_R_uJ, g_eI_uJ, g_eJ_uJ, g_eR_uJ, g_tg_sR, g_cl_sR, g_ln_sR, g_I_sR, g_J_sR, g_R_sR, g_eI_sR, g_eJ_sR, g_eR_sR, g_tg_uR, g_cl_uR, g_ln_uR, g_I_uR, g_J_uR, g_R_uR, g_eI_uR, g_eJ_uR, g_eR_uR, g_tg_new, g_cl_new, g_ln_new, g_I_new, g_J_new, g_R_new, g_eI_new, g_eJ_new, g_eR_new, g_tg_arr, g_cl_arr, g_ln_arr, g_I_arr, g_J_arr, g_R_arr, g_eI_arr, g_eJ_arr, g_eR_arr, hb, false_and, and_false, if_false, ite_false]
  have e2 : ∀ kz, st_ce (st_sR σ f a v) b kz = st_ce σ b kz := fun kz => by simp only [st_ce, fl_0, fl_1, fl_2, fl_3, fl_4, fl_5, fl_6, eI, eJ, eR, g_tg_sI, g_cl_sI, g_ln_sI, g_I_sI, g_J_sI, g_R_sI, g_eI_sI, g_eJ_sI, g_eR_sI, g_tg_uI, g_cl_uI, g_ln_uI, g_I_uI, g_J_uI, g_R_uI, g_eI_uI, g_eJ_uI, g_eR_uI, g_tg_sJ, g_cl_sJ, g_ln_sJ, g_I_sJ, g_J_sJ, g_R_sJ, g_eI_sJ, g_eJ_sJ, g_eR_sJ, g_tg_uJ, g_cl_uJ, g_ln_uJ, g_I_uJ, g_J_uJ, g_R_uJ, g_eI_uJ, g_eJ_uJ, g_eR_uJ, g_tg_sR, g_cl_sR, g_ln_sR, g_I_sR, g_J_sR, g_R_sR, g_eI_sR, g_eJ_sR, g_eR_sR, g_tg_uR, g_cl_uR, g_ln_uR, g_I_uR, g_J_uR, g_R_uR, g_eI_uR, g_eJ_uR, g_eR_uR, g_tg_new, g_cl_new, g_ln_new, g_I_new, g_J_new, g_R_new, g_eI_new, g_eJ_new, g_eR_new, g_tg_arr, g_cl_arr, g_ln_arr, g_I_arr, g_J_arr, g_R_arr, g_eI_arr, g_eJ_arr, g_eR_arr, hb, false_and, and_false, if_false, ite_false]
  unfold st_cell
  rw [e]
  cases st_tg σ b with
  | none => rfl
  | some k => exact congrArg some (e2 k)
theorem cell_uR_ne (σ : ST) (a i : Nat) (v : Option Nat) {b : Nat} (hb : b ≠ a) : st_cell (st_uR σ a i v) b = st_cell σ b := by
  have e : st_tg (st_uR σ a i v) b = st_tg σ b := by simp only [g_tg_sI, g_cl_sI, g_ln_sI, g_I_sI, g_J_sI, g_R_sI, g_eI_sI, g_eJ_sI, g_eR_sI, g_tg_uI, g_cl_uI, g_ln_uI, g_I_uI, g_J_uI, g_R_uI, g_eI_uI, g_eJ_uI, g_eR_uI, g_tg_sJ, g_cl_sJ, g_ln_sJ, g_I_sJ, g_J_sJ, g_R_sJ, g_eI_sJ, g_eJ_sJ, g_eR_sJ, g_tg_uJ, g_cl_uJ, g_ln_uJ, g_I_uJ, g_J_uJ, g_R_uJ, g_eI_uJ, g_eJ_uJ, g_eR_uJ, g_tg_sR, g_cl_sR, g_ln_sR, g_I_sR, g_J_sR, g_R_sR, g_eI_sR, g_eJ_sR, g_eR_sR, g_tg_uR, g_cl_uR, g_ln_uR, g_I_uR, g_J_uR, g_R_uR, g_eI_uR, g_eJ_uR, g_eR_uR, g_tg_new, g_cl_new, g_ln_new, g_I_new, g_J_new, g_R_new, g_eI_new, g_eJ_new, g_eR_new, g_tg_arr, g_cl_arr, g_ln_arr, g_I_arr, g_J_arr, g_R_arr, g_eI_arr, g_eJ_arr, g_eR_arr, hb, false_and, and_false, if_false, ite_false]
  have eI : st_eI (st_uR σ a i v) b = st_eI σ b := by funext j; simp only [g_tg_sI, g_cl_sI, g_ln_sI, g_I_sI, g_J_sI, g_R_sI, g_eI_sI, g_eJ_sI, g_eR_sI, g_tg_uI, g_cl_uI, g_ln_uI, g_I_uI, g_J_uI, g_R_uI, g_eI_uI, g_eJ_uI, g_eR_uI, g_tg_sJ, g_cl_sJ, g_ln_sJ, g_I_sJ, g_J_sJ, g_R_sJ, g_eI_sJ, g_eJ_sJ, g_eR_sJ, g_tg_uJ, g_cl_uJ, g_ln_uJ, g_I_uJ, g_J_uJ, g_R_uJ, g_eI_uJ, g_eJ_uJ, g_eR_uJ, g_tg_sR, g_cl_sR, g_ln_sR, g_I_sR, g_J_sR, g_R_sR, g_eI_sR, g_eJ_sR, g_eR_sR, g_tg_uR, g_cl_uR, g_ln_uR, g_I_uR, g_J_uR, g_R_uR, g_eI_uR, g_eJ_uR, g_eR_uR, g_tg_new, g_cl_new, g_ln_new, g_I_new, g_J_new, g_R_new, g_eI_new, g_eJ_new, g_eR_new, g_tg_arr, g_cl_arr, g_ln_arr, g_I_arr, g_J_arr, g_R_arr, g_eI_arr, g_eJ_arr, g_eR_arr, hb, false_and, and_false, if_false, ite_false]
  have eJ : st_eJ (st_uR σ a i v) b = st_eJ σ b := by funext j; simp only [g_tg_sI, g_cl_sI, g_ln_sI, g_I_sI, g_J_sI, g_R_sI, g_eI_sI, g_eJ_sI, g_eR_sI, g_tg_uI, g_cl_uI, g_ln_uI, g_I_uI, g_J_uI, g_R_uI, g_eI_uI, g_eJ_uI, g_eR_uI, g_tg_sJ, g_cl_sJ, g_ln_sJ, g_I_sJ, g_J_sJ, g_R_sJ, g_eI_sJ, g_eJ_sJ, g_eR_sJ, g_tg_uJ, g_cl_uJ, g_ln_uJ, g_I_uJ, g_J_uJ, g_R_uJ, g_eI_uJ, g_eJ_uJ, g_eR_uJ, g_tg_sR, g_cl_sR, g_ln_sR, g_I_sR, g_J_sR, g_R_sR, g_eI_sR, g_eJ_sR, g_eR_sR, g_tg_uR, g_cl_uR, g_ln_uR, g_I_uR, g_J_uR, g_R_uR, g_eI_uR, g_eJ_uR, g_eR_uR, g_tg_new, g_cl_new, g_ln_new, g_I_new, g_J_new, g_R_new, g_eI_new, g_eJ_new, g_eR_new, g_tg_arr, g_cl_arr, g_ln_arr, g_I_arr, g_J_arr, g_R_arr, g_eI_arr, g_eJ_arr, g_eR_arr, hb, false_and, and_false, if_false, ite_false]
  have eR : st_eR (st_uR σ a i v) b = st_eR σ b := by funext j; simp only [g_tg_sI, g_cl_sI, g_ln_sI, g_I_sI, g_J_sI, g_R_sI, g_eI_sI, g_eJ_sI, g_eR_sI, g_tg_uI, g_cl_uI, g_ln_uI, g_I_uI, g_J_uI, g_R_uI, g_eI_uI, g_eJ_uI, g_eR_uI, g_tg_sJ, g_cl_sJ, g_ln_sJ, g_I_sJ, g_J_sJ, g_R_sJ, g_eI_sJ, g_eJ_sJ, g_eR_sJ, g_tg_uJ, g_cl_uJ, g_ln_uJ, g_I_uJ, g_J_uJ, g_R_uJ, g_eI_uJ, g_eJ_uJ, g_eR_uJ, g_tg_sR, g_cl_sR, g_ln_sR, g_I_sR, g_J_sR, g_R_sR, g_eI_sR, g_eJ_sR, g_eR_sR, g_tg_uR, g_cl_uR, g_ln_uR, g_I_uR, g_J_uR, g_R_uR, g_eI_uR, g_eJ_uR, g_eR_uR, g_tg_new, g_cl_new, g_ln_new, g_I_new, g_J_new, g_R_new, g_eI_new, g_eJ_new, g_eR_new, g_tg_arr, g_cl_arr, g_ln_arr, g_I_arr, g_J_arr, g_R_arr, g_eI_arr, g_eJ_arr, g_eR_arr, hb, false_and, and_false, if_false, ite_false]
  have e2 : ∀ kz, st_ce (st_uR σ a i v) b kz = st_ce σ b kz := fun kz => by simp only [st_ce, fl_0, fl_1, fl_2, fl_3, fl_4, fl_5, fl_6, eI, eJ, eR, g_tg_sI, g_cl_sI, g_ln_sI, g_I_sI, g_J_sI, g_R_sI, g_eI_sI, g_eJ_sI, g_eR_sI, g_tg_uI, g_cl_uI, g_ln_uI, g_I_uI, g_J_uI, g_R_uI, g_eI_uI, g_eJ_uI, g_eR_uI, g_tg_sJ, g_cl_sJ, g_ln_sJ, g_I_sJ, g_J_sJ, g_R_sJ, g_eI_sJ, g_eJ_sJ, g_eR_sJ, g_tg_uJ, g_cl_uJ, g_ln_uJ, g_I_uJ, g_J_uJ, g_R_uJ, g_eI_uJ, g_eJ_uJ, g_eR_uJ, g_tg_sR, g_cl_sR, g_ln_sR, g_I_sR, g_J_sR, g_R_sR, g_eI_sR, g_eJ_sR, g_eR_sR, g_tg_uR, g_cl_uR, g_ln_uR, g_I_uR, g_J_uR, g_R_uR, g_eI_uR, g_eJ_uR, g_eR_uR, g_tg_new, g_cl_new, g_ln_new, g_I_new, g_J_new, g_R_new, g_eI_new, g_eJ_new, g_eR_new, g_tg_arr, g_cl_arr, g_ln_arr, g_I_arr, g_J_arr, g_R_arr, g_eI_arr, g_eJ_arr, g_eR_arr, hb, false_and, and_false, if_false, ite_false]
  unfold st_cell
  rw [e]
  cases st_tg σ b with
  | none => rfl
  | some k => exact congrArg some (e2 k)
theorem cell_new_ne (σ : ST) (q k : Nat) {b : Nat} (hb : b ≠ q) : st_cell (st_new σ q k) b = st_cell σ b := by
  have e : st_tg (st_new σ q k) b = st_tg σ b := by simp only [g_tg_sI, g_cl_sI, g_ln_sI, g_I_sI, g_J_sI, g_R_sI, g_eI_sI, g_eJ_sI, g_eR_sI, g_tg_uI, g_cl_uI, g_ln_uI, g_I_uI, g_J_uI, g_R_uI, g_eI_uI, g_eJ_uI, g_eR_uI, g_tg_sJ, g_cl_sJ, g_ln_sJ, g_I_sJ, g_J_sJ, g_R_sJ, g_eI_sJ, g_eJ_sJ, g_eR_sJ, g_tg_uJ, g_cl_uJ, g_ln_uJ, g_I_uJ, g_J_uJ, g_R_uJ, g_eI_uJ, g_eJ_uJ, g_eR_uJ, g_tg_sR, g_cl_sR, g_ln_sR, g_I_sR, g_J_sR, g_R_sR, g_eI_sR, g_eJ_sR, g_eR_sR, g_tg_uR, g_cl_uR, g_ln_uR, g_I_uR, g_J_uR, g_R_uR, g_eI_uR, g_eJ_uR, g_eR_uR, g_tg_new, g_cl_new, g_ln_new, g_I_new, g_J_new, g_R_new, g_eI_new, g_eJ_new, g_eR_new, g_tg_arr, g_cl_arr, g_ln_arr, g_I_arr, g_J_arr, g_R_arr, g_eI_arr, g_eJ_arr, g_eR_arr, hb, false_and, and_false, if_false, ite_false]
  have eI : st_eI (st_new σ q k) b = st_eI σ b := by funext j; simp only [g_tg_sI, g_cl_sI, g_ln_sI, g_I_sI, g_J_sI, g_R_sI, g_eI_sI, g_eJ_sI, g_eR_sI, g_tg_uI, g_cl_uI, g_ln_uI, g_I_uI, g_J_uI, g_R_uI, g_eI_uI, g_eJ_uI, g_eR_uI, g_tg_sJ, g_cl_sJ, g_ln_sJ, g_I_sJ, g_J_sJ, g_R_sJ, g_eI_sJ, g_eJ_sJ, g_eR_sJ, g_tg_uJ, g_cl_uJ, g_ln_uJ, g_I_uJ, g_J_uJ, g_R_uJ, g_eI_uJ, g_eJ_uJ, g_eR_uJ, g_tg_sR, g_cl_sR, g_ln_sR, g_I_sR, g_J_sR, g_R_sR, g_eI_sR, g_eJ_sR, g_eR_sR, g_tg_uR, g_cl_uR, g_ln_uR, g_I_uR, g_J_uR, g_R_uR, g_eI_uR, g_eJ_uR, g_eR_uR, g_tg_new, g_cl_new, g_ln_new, g_I_new, g_J_new, g_R_new, g_eI_new, g_eJ_new, g_eR_new, g_tg_arr, g_cl_arr, g_ln_arr, g_I_arr, g_J_arr, g_R_arr, g_eI_arr, g_eJ_arr, g_eR_arr, hb, false_and, and_false, if_false, ite_false]
  have eJ : st_eJ (st_new σ q k) b = st_eJ σ b := by funext j; simp only [g_tg_sI, g_cl_sI, g_ln_sI, g_I_sI, g_J_sI, g_R_sI, g_eI_sI, g_eJ_sI, g_eR_sI, g_tg_uI, g_cl_uI, g_ln_uI, g_I_uI, g_J_uI, g_R_uI, g_eI_uI, g_eJ_uI, g_eR_uI, g_tg_sJ, g_cl_sJ, g_ln_sJ, g_I_sJ, g_J_sJ, g_R_sJ, g_eI_sJ, g_eJ_sJ, g_eR_sJ, g_tg_uJ, g_cl_uJ, g_ln_uJ, g_I_uJ, g_J_uJ, g_R_uJ, g_eI_uJ, g_eJ_uJ, g_eR_uJ, g_tg_sR, g_cl_sR, g_ln_sR, g_I_sR, g_J_sR, g_R_sR, g_eI_sR, g_eJ_sR, g_eR_sR, g_tg_uR, g_cl_uR, g_ln_uR, g_I_uR, g_J_uR, g_R_uR, g_eI_uR, g_eJ_uR, g_eR_uR, g_tg_new, g_cl_new, g_ln_new, g_I_new, g_J_new, g_R_new, g_eI_new, g_eJ_new, g_eR_new, g_tg_arr, g_cl_arr, g_ln_arr, g_I_arr, g_J_arr, g_R_arr, g_eI_arr, g_eJ_arr, g_eR_arr, hb, false_and, and_false, if_false, ite_false]
  have eR : st_eR (st_new σ q k) b = st_eR σ b := by funext j; simp only [g_tg_sI, g_cl_sI, g_ln_sI, g_I_sI, g_J_sI, g_R_sI, g_eI_sI, g_eJ_sI, g_eR_sI, g_tg_uI, g_cl_uI, g_ln_uI, g_I_uI, g_J_uI, g_R_uI, g_eI_uI, g_eJ_uI, g_eR_uI, g_tg_sJ, g_cl_sJ, g_ln_sJ, g_I_sJ, g_J_sJ, g_R_sJ, g_eI_sJ, g_eJ_sJ, g_eR_sJ, g_tg_uJ, g_cl_uJ, g_ln_uJ, g_I_uJ, g_J_uJ, g_R_uJ, g_eI_uJ, g_eJ_uJ, g_eR_uJ, g_tg_sR, g_cl_sR, g_ln_sR, g_I_sR, g_J_sR, g_R_sR, g_eI_sR, g_eJ_sR, g_eR_sR, g_tg_uR, g_cl_uR, g_ln_uR, g_I_uR, g_J_uR, g_R_uR, g_eI_uR, g_eJ_uR, g_eR_uR, g_tg_new, g_cl_new, g_ln_new, g_I_new, g_J_new, g_R_new, g_eI_new, g_eJ_new, g_eR_new, g_tg_arr, g_cl_arr, g_ln_arr, g_I_arr, g_J_arr, g_R_arr, g_eI_arr, g_eJ_arr, g_eR_arr, hb, false_and, and_false, if_false, ite_false]
  have e2 : ∀ kz, st_ce (st_new σ q k) b kz = st_ce σ b kz := fun kz => by simp only [st_ce, fl_0, fl_1, fl_2, fl_3, fl_4, fl_5, fl_6, eI, eJ, eR, g_tg_sI, g_cl_sI, g_ln_sI, g_I_sI, g_J_sI, g_R_sI, g_eI_sI, g_eJ_sI, g_eR_sI, g_tg_uI, g_cl_uI, g_ln_uI, g_I_uI, g_J_uI, g_R_uI, g_eI_uI, g_eJ_uI, g_eR_uI, g_tg_sJ, g_cl_sJ, g_ln_sJ, g_I_sJ, g_J_sJ, g_R_sJ, g_eI_sJ, g_eJ_sJ, g_eR_sJ, g_tg_uJ, g_cl_uJ, g_ln_uJ, g_I_uJ, g_J_uJ, g_R_uJ, g_eI_uJ, g_eJ_uJ, g_eR_uJ, g_tg_sR, g_cl_sR, g_ln_sR, g_I_sR, g_J_sR, g_R_sR, g_eI_sR, g_eJ_sR, g_eR_sR, g_tg_uR, g_cl_uR, g_ln_uR, g_I_uR, g_J_uR, g_R_uR, g_eI_uR, g_eJ_uR, g_eR_uR, g_tg_new, g_cl_new, g_ln_new, g_I_new, g_J_new, g_R_new, g_eI_new, g_eJ_new, g_eR_new, g_tg_arr, g_cl_arr, g_ln_arr, g_I_arr, g_J_arr, g_R_arr, g_eI_arr, g_eJ_arr, g_eR_arr, hb, false_and, and_false, if_false, ite_false]
  unfold st_cell
  rw [e]
  cases st_tg σ b with
  | none => rfl
  | some k => exact congrArg some (e2 k)
theorem cell_arr_ne (σ : ST) (q k : Nat) (cA : ClassId) (n : Nat) {b : Nat} (hb : b ≠ q) : st_cell (st_arr σ q k cA n) b = st_cell σ b := by
  have e : st_tg (st_arr σ q k cA n) b = st_tg σ b := by simp only [g_tg_sI, g_cl_sI, g_ln_sI, g_I_sI, g_J_sI, g_R_sI, g_eI_sI, g_eJ_sI, g_eR_sI, g_tg_uI, g_cl_uI, g_ln_uI, g_I_uI, g_J_uI, g_R_uI, g_eI_uI, g_eJ_uI, g_eR_uI, g_tg_sJ, g_cl_sJ, g_ln_sJ, g_I_sJ, g_J_sJ, g_R_sJ, g_eI_sJ, g_eJ_sJ, g_eR_sJ, g_tg_uJ, g_cl_uJ, g_ln_uJ, g_I_uJ, g_J_uJ, g_R_uJ, g_eI_uJ, g_eJ_uJ, g_eR_uJ, g_tg_sR, g_cl_sR, g_ln_sR, g_I_sR, g_J_sR, g_R_sR, g_eI_sR, g_eJ_sR, g_eR_sR, g_tg_uR, g_cl_uR, g_ln_uR, g_I_uR, g_J_uR, g_R_uR, g_eI_uR, g_eJ_uR, g_eR_uR, g_tg_new, g_cl_new, g_ln_new, g_I_new, g_J_new, g_R_new, g_eI_new, g_eJ_new, g_eR_new, g_tg_arr, g_cl_arr, g_ln_arr, g_I_arr, g_J_arr, g_R_arr, g_eI_arr, g_eJ_arr, g_eR_arr, hb, false_and, and_false, if_false, ite_false]
  have eI : st_eI (st_arr σ q k cA n) b = st_eI σ b := by funext j; simp only [g_tg_sI, g_cl_sI, g_ln_sI, g_I_sI, g_J_sI, g_R_sI, g_eI_sI, g_eJ_sI, g_eR_sI, g_tg_uI, g_cl_uI, g_ln_uI, g_I_uI, g_J_uI, g_R_uI, g_eI_uI, g_eJ_uI, g_eR_uI, g_tg_sJ, g_cl_sJ, g_ln_sJ, g_I_sJ, g_J_sJ, g_R_sJ, g_eI_sJ, g_eJ_sJ, g_eR_sJ, g_tg_uJ, g_cl_uJ, g_ln_uJ, g_I_uJ, g_J_uJ, g_R_uJ, g_eI_uJ, g_eJ_uJ, g_eR_uJ, g_tg_sR, g_cl_sR, g_ln_sR, g_I_sR, g_J_sR, g_R_sR, g_eI_sR, g_eJ_sR, g_eR_sR, g_tg_uR, g_cl_uR, g_ln_uR, g_I_uR, g_J_uR, g_R_uR, g_eI_uR, g_eJ_uR, g_eR_uR, g_tg_new, g_cl_new, g_ln_new, g_I_new, g_J_new, g_R_new, g_eI_new, g_eJ_new, g_eR_new, g_tg_arr, g_cl_arr, g_ln_arr, g_I_arr, g_J_arr, g_R_arr, g_eI_arr, g_eJ_arr, g_eR_arr, hb, false_and, and_false, if_false, ite_false]
  have eJ : st_eJ (st_arr σ q k cA n) b = st_eJ σ b := by funext j; simp only [g_tg_sI, g_cl_sI, g_ln_sI, g_I_sI, g_J_sI, g_R_sI, g_eI_sI, g_eJ_sI, g_eR_sI, g_tg_uI, g_cl_uI, g_ln_uI, g_I_uI, g_J_uI, g_R_uI, g_eI_uI, g_eJ_uI, g_eR_uI, g_tg_sJ, g_cl_sJ, g_ln_sJ, g_I_sJ, g_J_sJ, g_R_sJ, g_eI_sJ, g_eJ_sJ, g_eR_sJ, g_tg_uJ, g_cl_uJ, g_ln_uJ, g_I_uJ, g_J_uJ, g_R_uJ, g_eI_uJ, g_eJ_uJ, g_eR_uJ, g_tg_sR, g_cl_sR, g_ln_sR, g_I_sR, g_J_sR, g_R_sR, g_eI_sR, g_eJ_sR, g_eR_sR, g_tg_uR, g_cl_uR, g_ln_uR, g_I_uR, g_J_uR, g_R_uR, g_eI_uR, g_eJ_uR, g_eR_uR, g_tg_new, g_cl_new, g_ln_new, g_I_new, g_J_new, g_R_new, g_eI_new, g_eJ_new, g_eR_new, g_tg_arr, g_cl_arr, g_ln_arr, g_I_arr, g_J_arr, g_R_arr, g_eI_arr, g_eJ_arr, g_eR_arr, hb, false_and, and_false, if_false, ite_false]
  have eR : st_eR (st_arr σ q k cA n) b = st_eR σ b := by funext j; simp only [g_tg_sI, g_cl_sI, g_ln_sI, g_I_sI, g_J_sI, g_R_sI, g_eI_sI, g_eJ_sI, g_eR_sI, g_tg_uI, g_cl_uI, g_ln_uI, g_I_uI, g_J_uI, g_R_uI, g_eI_uI, g_eJ_uI, g_eR_uI, g_tg_sJ, g_cl_sJ, g_ln_sJ, g_I_sJ, g_J_sJ, g_R_sJ, g_eI_sJ, g_eJ_sJ, g_eR_sJ, g_tg_uJ, g_cl_uJ, g_ln_uJ, g_I_uJ, g_J_uJ, g_R_uJ, g_eI_uJ, g_eJ_uJ, g_eR_uJ, g_tg_sR, g_cl_sR, g_ln_sR, g_I_sR, g_J_sR, g_R_sR, g_eI_sR, g_eJ_sR, g_eR_sR, g_tg_uR, g_cl_uR, g_ln_uR, g_I_uR, g_J_uR, g_R_uR, g_eI_uR, g_eJ_uR, g_eR_uR, g_tg_new, g_cl_new, g_ln_new, g_I_new, g_J_new, g_R_new, g_eI_new, g_eJ_new, g_eR_new, g_tg_arr, g_cl_arr, g_ln_arr, g_I_arr, g_J_arr, g_R_arr, g_eI_arr, g_eJ_arr, g_eR_arr, hb, false_and, and_false, if_false, ite_false]
  have e2 : ∀ kz, st_ce (st_arr σ q k cA n) b kz = st_ce σ b kz := fun kz => by simp only [st_ce, fl_0, fl_1, fl_2, fl_3, fl_4, fl_5, fl_6, eI, eJ, eR, g_tg_sI, g_cl_sI, g_ln_sI, g_I_sI, g_J_sI, g_R_sI, g_eI_sI, g_eJ_sI, g_eR_sI, g_tg_uI, g_cl_uI, g_ln_uI, g_I_uI, g_J_uI, g_R_uI, g_eI_uI, g_eJ_uI, g_eR_uI, g_tg_sJ, g_cl_sJ, g_ln_sJ, g_I_sJ, g_J_sJ, g_R_sJ, g_eI_sJ, g_eJ_sJ, g_eR_sJ, g_tg_uJ, g_cl_uJ, g_ln_uJ, g_I_uJ, g_J_uJ, g_R_uJ, g_eI_uJ, g_eJ_uJ, g_eR_uJ, g_tg_sR, g_cl_sR, g_ln_sR, g_I_sR, g_J_sR, g_R_sR, g_eI_sR, g_eJ_sR, g_eR_sR, g_tg_uR, g_cl_uR, g_ln_uR, g_I_uR, g_J_uR, g_R_uR, g_eI_uR, g_eJ_uR, g_eR_uR, g_tg_new, g_cl_new, g_ln_new, g_I_new, g_J_new, g_R_new, g_eI_new, g_eJ_new, g_eR_new, g_tg_arr, g_cl_arr, g_ln_arr, g_I_arr, g_J_arr, g_R_arr, g_eI_arr, g_eJ_arr, g_eR_arr, hb, false_and, and_false, if_false, ite_false]
  unfold st_cell
  rw [e]
  cases st_tg σ b with
  | none => rfl
  | some k => exact congrArg some (e2 k)
theorem put_0_0 (σ : ST) (a : Nat) (v : Option Nat) (h : st_tg σ a = some 0) : st_cell (st_sR σ 0 a v) = va_up (st_cell σ) a (some (.inr (0, (fl_0 σ a).set 0 (va_rf v)))) := by
  funext b
  by_cases hb : b = a
  · subst hb; rw [va_up_self, cell_0 (σ := st_sR σ 0 b v) (by rw [g_tg_sR]; exact h)]; simp [g_tg_sI, g_cl_sI, g_ln_sI, g_I_sI, g_J_sI, g_R_sI, g_eI_sI, g_eJ_sI, g_eR_sI, g_tg_uI, g_cl_uI, g_ln_uI, g_I_uI, g_J_uI, g_R_uI, g_eI_uI, g_eJ_uI, g_eR_uI, g_tg_sJ, g_cl_sJ, g_ln_sJ, g_I_sJ, g_J_sJ, g_R_sJ, g_eI_sJ, g_eJ_sJ, g_eR_sJ, g_tg_uJ, g_cl_uJ, g_ln_uJ, g_I_uJ, g_J_uJ, g_R_uJ, g_eI_uJ, g_eJ_uJ, g_eR_uJ, g_tg_sR, g_cl_sR, g_ln_sR, g_I_sR, g_J_sR, g_R_sR, g_eI_sR, g_eJ_sR, g_eR_sR, g_tg_uR, g_cl_uR, g_ln_uR, g_I_uR, g_J_uR, g_R_uR, g_eI_uR, g_eJ_uR, g_eR_uR, g_tg_new, g_cl_new, g_ln_new, g_I_new, g_J_new, g_R_new, g_eI_new, g_eJ_new, g_eR_new, g_tg_arr, g_cl_arr, g_ln_arr, g_I_arr, g_J_arr, g_R_arr, g_eI_arr, g_eJ_arr, g_eR_arr]
  · rw [va_up_ne _ _ hb]; exact cell_sR_ne σ _ _ _ hb
theorem put_0_1 (σ : ST) (a : Nat) (v : Option Nat) (h : st_tg σ a = some 0) : st_cell (st_sR σ 1 a v) = va_up (st_cell σ) a (some (.inr (0, (fl_0 σ a).set 1 (va_rf v)))) := by
  funext b
  by_cases hb : b = a
  · subst hb; rw [va_up_self, cell_0 (σ := st_sR σ 1 b v) (by rw [g_tg_sR]; exact h)]; simp [g_tg_sI, g_cl_sI, g_ln_sI, g_I_sI, g_J_sI, g_R_sI, g_eI_sI, g_eJ_sI, g_eR_sI, g_tg_uI, g_cl_uI, g_ln_uI, g_I_uI, g_J_uI, g_R_uI, g_eI_uI, g_eJ_uI, g_eR_uI, g_tg_sJ, g_cl_sJ, g_ln_sJ, g_I_sJ, g_J_sJ, g_R_sJ, g_eI_sJ, g_eJ_sJ, g_eR_sJ, g_tg_uJ, g_cl_uJ, g_ln_uJ, g_I_uJ, g_J_uJ, g_R_uJ, g_eI_uJ, g_eJ_uJ, g_eR_uJ, g_tg_sR, g_cl_sR, g_ln_sR, g_I_sR, g_J_sR, g_R_sR, g_eI_sR, g_eJ_sR, g_eR_sR, g_tg_uR, g_cl_uR, g_ln_uR, g_I_uR, g_J_uR, g_R_uR, g_eI_uR, g_eJ_uR, g_eR_uR, g_tg_new, g_cl_new, g_ln_new, g_I_new, g_J_new, g_R_new, g_eI_new, g_eJ_new, g_eR_new, g_tg_arr, g_cl_arr, g_ln_arr, g_I_arr, g_J_arr, g_R_arr, g_eI_arr, g_eJ_arr, g_eR_arr]
  · rw [va_up_ne _ _ hb]; exact cell_sR_ne σ _ _ _ hb
theorem put_0_2 (σ : ST) (a : Nat) (v : Option Nat) (h : st_tg σ a = some 0) : st_cell (st_sR σ 2 a v) = va_up (st_cell σ) a (some (.inr (0, (fl_0 σ a).set 2 (va_rf v)))) := by
  funext b
  by_cases hb : b = a
  · subst hb; rw [va_up_self, cell_0 (σ := st_sR σ 2 b v) (by rw [g_tg_sR]; exact h)]; simp [g_tg_sI, g_cl_sI, g_ln_sI, g_I_sI, g_J_sI, g_R_sI, g_eI_sI, g_eJ_sI, g_eR_sI, g_tg_uI, g_cl_uI, g_ln_uI, g_I_uI, g_J_uI, g_R_uI, g_eI_uI, g_eJ_uI, g_eR_uI, g_tg_sJ, g_cl_sJ, g_ln_sJ, g_I_sJ, g_J_sJ, g_R_sJ, g_eI_sJ, g_eJ_sJ, g_eR_sJ, g_tg_uJ, g_cl_uJ, g_ln_uJ, g_I_uJ, g_J_uJ, g_R_uJ, g_eI_uJ, g_eJ_uJ, g_eR_uJ, g_tg_sR, g_cl_sR, g_ln_sR, g_I_sR, g_J_sR, g_R_sR, g_eI_sR, g_eJ_sR, g_eR_sR, g_tg_uR, g_cl_uR, g_ln_uR, g_I_uR, g_J_uR, g_R_uR, g_eI_uR, g_eJ_uR, g_eR_uR, g_tg_new, g_cl_new, g_ln_new, g_I_new, g_J_new, g_R_new, g_eI_new, g_eJ_new, g_eR_new, g_tg_arr, g_cl_arr, g_ln_arr, g_I_arr, g_J_arr, g_R_arr, g_eI_arr, g_eJ_arr, g_eR_arr]
  · rw [va_up_ne _ _ hb]; exact cell_sR_ne σ _ _ _ hb
theorem put_0_3 (σ : ST) (a : Nat) (v : Int32) (h : st_tg σ a = some 0) : st_cell (st_sI σ 3 a v) = va_up (st_cell σ) a (some (.inr (0, (fl_0 σ a).set 3 (.int v)))) := by
  funext b
  by_cases hb : b = a
  · subst hb; rw [va_up_self, cell_0 (σ := st_sI σ 3 b v) (by rw [g_tg_sI]; exact h)]; simp [g_tg_sI, g_cl_sI, g_ln_sI, g_I_sI, g_J_sI, g_R_sI, g_eI_sI, g_eJ_sI, g_eR_sI, g_tg_uI, g_cl_uI, g_ln_uI, g_I_uI, g_J_uI, g_R_uI, g_eI_uI, g_eJ_uI, g_eR_uI, g_tg_sJ, g_cl_sJ, g_ln_sJ, g_I_sJ, g_J_sJ, g_R_sJ, g_eI_sJ, g_eJ_sJ, g_eR_sJ, g_tg_uJ, g_cl_uJ, g_ln_uJ, g_I_uJ, g_J_uJ, g_R_uJ, g_eI_uJ, g_eJ_uJ, g_eR_uJ, g_tg_sR, g_cl_sR, g_ln_sR, g_I_sR, g_J_sR, g_R_sR, g_eI_sR, g_eJ_sR, g_eR_sR, g_tg_uR, g_cl_uR, g_ln_uR, g_I_uR, g_J_uR, g_R_uR, g_eI_uR, g_eJ_uR, g_eR_uR, g_tg_new, g_cl_new, g_ln_new, g_I_new, g_J_new, g_R_new, g_eI_new, g_eJ_new, g_eR_new, g_tg_arr, g_cl_arr, g_ln_arr, g_I_arr, g_J_arr, g_R_arr, g_eI_arr, g_eJ_arr, g_eR_arr]
  · rw [va_up_ne _ _ hb]; exact cell_sI_ne σ _ _ _ hb
theorem put_0_4 (σ : ST) (a : Nat) (v : Option Nat) (h : st_tg σ a = some 0) : st_cell (st_sR σ 4 a v) = va_up (st_cell σ) a (some (.inr (0, (fl_0 σ a).set 4 (va_rf v)))) := by
  funext b
  by_cases hb : b = a
  · subst hb; rw [va_up_self, cell_0 (σ := st_sR σ 4 b v) (by rw [g_tg_sR]; exact h)]; simp [g_tg_sI, g_cl_sI, g_ln_sI, g_I_sI, g_J_sI, g_R_sI, g_eI_sI, g_eJ_sI, g_eR_sI, g_tg_uI, g_cl_uI, g_ln_uI, g_I_uI, g_J_uI, g_R_uI, g_eI_uI, g_eJ_uI, g_eR_uI, g_tg_sJ, g_cl_sJ, g_ln_sJ, g_I_sJ, g_J_sJ, g_R_sJ, g_eI_sJ, g_eJ_sJ, g_eR_sJ, g_tg_uJ, g_cl_uJ, g_ln_uJ, g_I_uJ, g_J_uJ, g_R_uJ, g_eI_uJ, g_eJ_uJ, g_eR_uJ, g_tg_sR, g_cl_sR, g_ln_sR, g_I_sR, g_J_sR, g_R_sR, g_eI_sR, g_eJ_sR, g_eR_sR, g_tg_uR, g_cl_uR, g_ln_uR, g_I_uR, g_J_uR, g_R_uR, g_eI_uR, g_eJ_uR, g_eR_uR, g_tg_new, g_cl_new, g_ln_new, g_I_new, g_J_new, g_R_new, g_eI_new, g_eJ_new, g_eR_new, g_tg_arr, g_cl_arr, g_ln_arr, g_I_arr, g_J_arr, g_R_arr, g_eI_arr, g_eJ_arr, g_eR_arr]
  · rw [va_up_ne _ _ hb]; exact cell_sR_ne σ _ _ _ hb
theorem put_0_5 (σ : ST) (a : Nat) (v : Int32) (h : st_tg σ a = some 0) : st_cell (st_sI σ 5 a v) = va_up (st_cell σ) a (some (.inr (0, (fl_0 σ a).set 5 (.int v)))) := by
  funext b
  by_cases hb : b = a
  · subst hb; rw [va_up_self, cell_0 (σ := st_sI σ 5 b v) (by rw [g_tg_sI]; exact h)]; simp [g_tg_sI, g_cl_sI, g_ln_sI, g_I_sI, g_J_sI, g_R_sI, g_eI_sI, g_eJ_sI, g_eR_sI, g_tg_uI, g_cl_uI, g_ln_uI, g_I_uI, g_J_uI, g_R_uI, g_eI_uI, g_eJ_uI, g_eR_uI, g_tg_sJ, g_cl_sJ, g_ln_sJ, g_I_sJ, g_J_sJ, g_R_sJ, g_eI_sJ, g_eJ_sJ, g_eR_sJ, g_tg_uJ, g_cl_uJ, g_ln_uJ, g_I_uJ, g_J_uJ, g_R_uJ, g_eI_uJ, g_eJ_uJ, g_eR_uJ, g_tg_sR, g_cl_sR, g_ln_sR, g_I_sR, g_J_sR, g_R_sR, g_eI_sR, g_eJ_sR, g_eR_sR, g_tg_uR, g_cl_uR, g_ln_uR, g_I_uR, g_J_uR, g_R_uR, g_eI_uR, g_eJ_uR, g_eR_uR, g_tg_new, g_cl_new, g_ln_new, g_I_new, g_J_new, g_R_new, g_eI_new, g_eJ_new, g_eR_new, g_tg_arr, g_cl_arr, g_ln_arr, g_I_arr, g_J_arr, g_R_arr, g_eI_arr, g_eJ_arr, g_eR_arr]
  · rw [va_up_ne _ _ hb]; exact cell_sI_ne σ _ _ _ hb
theorem put_0_6 (σ : ST) (a : Nat) (v : Int32) (h : st_tg σ a = some 0) : st_cell (st_sI σ 6 a v) = va_up (st_cell σ) a (some (.inr (0, (fl_0 σ a).set 6 (.int v)))) := by
  funext b
  by_cases hb : b = a
  · subst hb; rw [va_up_self, cell_0 (σ := st_sI σ 6 b v) (by rw [g_tg_sI]; exact h)]; simp [g_tg_sI, g_cl_sI, g_ln_sI, g_I_sI, g_J_sI, g_R_sI, g_eI_sI, g_eJ_sI, g_eR_sI, g_tg_uI, g_cl_uI, g_ln_uI, g_I_uI, g_J_uI, g_R_uI, g_eI_uI, g_eJ_uI, g_eR_uI, g_tg_sJ, g_cl_sJ, g_ln_sJ, g_I_sJ, g_J_sJ, g_R_sJ, g_eI_sJ, g_eJ_sJ, g_eR_sJ, g_tg_uJ, g_cl_uJ, g_ln_uJ, g_I_uJ, g_J_uJ, g_R_uJ, g_eI_uJ, g_eJ_uJ, g_eR_uJ, g_tg_sR, g_cl_sR, g_ln_sR, g_I_sR, g_J_sR, g_R_sR, g_eI_sR, g_eJ_sR, g_eR_sR, g_tg_uR, g_cl_uR, g_ln_uR, g_I_uR, g_J_uR, g_R_uR, g_eI_uR, g_eJ_uR, g_eR_uR, g_tg_new, g_cl_new, g_ln_new, g_I_new, g_J_new, g_R_new, g_eI_new, g_eJ_new, g_eR_new, g_tg_arr, g_cl_arr, g_ln_arr, g_I_arr, g_J_arr, g_R_arr, g_eI_arr, g_eJ_arr, g_eR_arr]
  · rw [va_up_ne _ _ hb]; exact cell_sI_ne σ _ _ _ hb
theorem put_0_7 (σ : ST) (a : Nat) (v : Option Nat) (h : st_tg σ a = some 0) : st_cell (st_sR σ 7 a v) = va_up (st_cell σ) a (some (.inr (0, (fl_0 σ a).set 7 (va_rf v)))) := by
  funext b
  by_cases hb : b = a
  · subst hb; rw [va_up_self, cell_0 (σ := st_sR σ 7 b v) (by rw [g_tg_sR]; exact h)]; simp [g_tg_sI, g_cl_sI, g_ln_sI, g_I_sI, g_J_sI, g_R_sI, g_eI_sI, g_eJ_sI, g_eR_sI, g_tg_uI, g_cl_uI, g_ln_uI, g_I_uI, g_J_uI, g_R_uI, g_eI_uI, g_eJ_uI, g_eR_uI, g_tg_sJ, g_cl_sJ, g_ln_sJ, g_I_sJ, g_J_sJ, g_R_sJ, g_eI_sJ, g_eJ_sJ, g_eR_sJ, g_tg_uJ, g_cl_uJ, g_ln_uJ, g_I_uJ, g_J_uJ, g_R_uJ, g_eI_uJ, g_eJ_uJ, g_eR_uJ, g_tg_sR, g_cl_sR, g_ln_sR, g_I_sR, g_J_sR, g_R_sR, g_eI_sR, g_eJ_sR, g_eR_sR, g_tg_uR, g_cl_uR, g_ln_uR, g_I_uR, g_J_uR, g_R_uR, g_eI_uR, g_eJ_uR, g_eR_uR, g_tg_new, g_cl_new, g_ln_new, g_I_new, g_J_new, g_R_new, g_eI_new, g_eJ_new, g_eR_new, g_tg_arr, g_cl_arr, g_ln_arr, g_I_arr, g_J_arr, g_R_arr, g_eI_arr, g_eJ_arr, g_eR_arr]
  · rw [va_up_ne _ _ hb]; exact cell_sR_ne σ _ _ _ hb
theorem put_0_8 (σ : ST) (a : Nat) (v : Int32) (h : st_tg σ a = some 0) : st_cell (st_sI σ 8 a v) = va_up (st_cell σ) a (some (.inr (0, (fl_0 σ a).set 8 (.int v)))) := by
  funext b
  by_cases hb : b = a
  · subst hb; rw [va_up_self, cell_0 (σ := st_sI σ 8 b v) (by rw [g_tg_sI]; exact h)]; simp [g_tg_sI, g_cl_sI, g_ln_sI, g_I_sI, g_J_sI, g_R_sI, g_eI_sI, g_eJ_sI, g_eR_sI, g_tg_uI, g_cl_uI, g_ln_uI, g_I_uI, g_J_uI, g_R_uI, g_eI_uI, g_eJ_uI, g_eR_uI, g_tg_sJ, g_cl_sJ, g_ln_sJ, g_I_sJ, g_J_sJ, g_R_sJ, g_eI_sJ, g_eJ_sJ, g_eR_sJ, g_tg_uJ, g_cl_uJ, g_ln_uJ, g_I_uJ, g_J_uJ, g_R_uJ, g_eI_uJ, g_eJ_uJ, g_eR_uJ, g_tg_sR, g_cl_sR, g_ln_sR, g_I_sR, g_J_sR, g_R_sR, g_eI_sR, g_eJ_sR, g_eR_sR, g_tg_uR, g_cl_uR, g_ln_uR, g_I_uR, g_J_uR, g_R_uR, g_eI_uR, g_eJ_uR, g_eR_uR, g_tg_new, g_cl_new, g_ln_new, g_I_new, g_J_new, g_R_new, g_eI_new, g_eJ_new, g_eR_new, g_tg_arr, g_cl_arr, g_ln_arr, g_I_arr, g_J_arr, g_R_arr, g_eI_arr, g_eJ_arr, g_eR_arr]
  · rw [va_up_ne _ _ hb]; exact cell_sI_ne σ _ _ _ hb
theorem put_0_9 (σ : ST) (a : Nat) (v : Option Nat) (h : st_tg σ a = some 0) : st_cell (st_sR σ 9 a v) = va_up (st_cell σ) a (some (.inr (0, (fl_0 σ a).set 9 (va_rf v)))) := by
  funext b
  by_cases hb : b = a
  · subst hb; rw [va_up_self, cell_0 (σ := st_sR σ 9 b v) (by rw [g_tg_sR]; exact h)]; simp [g_tg_sI, g_cl_sI, g_ln_sI, g_I_sI, g_J_sI, g_R_sI, g_eI_sI, g_eJ_sI, g_eR_sI, g_tg_uI, g_cl_uI, g_ln_uI, g_I_uI, g_J_uI, g_R_uI, g_eI_uI, g_eJ_uI, g_eR_uI, g_tg_sJ, g_cl_sJ, g_ln_sJ, g_I_sJ, g_J_sJ, g_R_sJ, g_eI_sJ, g_eJ_sJ, g_eR_sJ, g_tg_uJ, g_cl_uJ, g_ln_uJ, g_I_uJ, g_J_uJ, g_R_uJ, g_eI_uJ, g_eJ_uJ, g_eR_uJ, g_tg_sR, g_cl_sR, g_ln_sR, g_I_sR, g_J_sR, g_R_sR, g_eI_sR, g_eJ_sR, g_eR_sR, g_tg_uR, g_cl_uR, g_ln_uR, g_I_uR, g_J_uR, g_R_uR, g_eI_uR, g_eJ_uR, g_eR_uR, g_tg_new, g_cl_new, g_ln_new, g_I_new, g_J_new, g_R_new, g_eI_new, g_eJ_new, g_eR_new, g_tg_arr, g_cl_arr, g_ln_arr, g_I_arr, g_J_arr, g_R_arr, g_eI_arr, g_eJ_arr, g_eR_arr]
  · rw [va_up_ne _ _ hb]; exact cell_sR_ne σ _ _ _ hb
abbrev df_0 : List Value := [va_rf none, va_rf none, va_rf none, .int 0, va_rf none, .int 0, .int 0, va_rf none, .int 0, va_rf none]
theorem new_0 (σ : ST) (q : Nat) (h : st_tg σ q = none) : st_cell (st_new σ q 0) = va_up (st_cell σ) q (some (.inr (0, df_0))) := by
  funext b
  by_cases hb : b = q
  · subst hb; rw [va_up_self, cell_0 (σ := st_new σ b 0) (by rw [g_tg_new, if_pos rfl])]; simp [g_tg_sI, g_cl_sI, g_ln_sI, g_I_sI, g_J_sI, g_R_sI, g_eI_sI, g_eJ_sI, g_eR_sI, g_tg_uI, g_cl_uI, g_ln_uI, g_I_uI, g_J_uI, g_R_uI, g_eI_uI, g_eJ_uI, g_eR_uI, g_tg_sJ, g_cl_sJ, g_ln_sJ, g_I_sJ, g_J_sJ, g_R_sJ, g_eI_sJ, g_eJ_sJ, g_eR_sJ, g_tg_uJ, g_cl_uJ, g_ln_uJ, g_I_uJ, g_J_uJ, g_R_uJ, g_eI_uJ, g_eJ_uJ, g_eR_uJ, g_tg_sR, g_cl_sR, g_ln_sR, g_I_sR, g_J_sR, g_R_sR, g_eI_sR, g_eJ_sR, g_eR_sR, g_tg_uR, g_cl_uR, g_ln_uR, g_I_uR, g_J_uR, g_R_uR, g_eI_uR, g_eJ_uR, g_eR_uR, g_tg_new, g_cl_new, g_ln_new, g_I_new, g_J_new, g_R_new, g_eI_new, g_eJ_new, g_eR_new, g_tg_arr, g_cl_arr, g_ln_arr, g_I_arr, g_J_arr, g_R_arr, g_eI_arr, g_eJ_arr, g_eR_arr]
  · rw [va_up_ne _ _ hb]; exact cell_new_ne σ _ _ hb
theorem put_1_0 (σ : ST) (a : Nat) (v : Int32) (h : st_tg σ a = some 1) : st_cell (st_sI σ 40 a v) = va_up (st_cell σ) a (some (.inr (1, (fl_1 σ a).set 0 (.int v)))) := by
  funext b
  by_cases hb : b = a
  · subst hb; rw [va_up_self, cell_1 (σ := st_sI σ 40 b v) (by rw [g_tg_sI]; exact h)]; simp [g_tg_sI, g_cl_sI, g_ln_sI, g_I_sI, g_J_sI, g_R_sI, g_eI_sI, g_eJ_sI, g_eR_sI, g_tg_uI, g_cl_uI, g_ln_uI, g_I_uI, g_J_uI, g_R_uI, g_eI_uI, g_eJ_uI, g_eR_uI, g_tg_sJ, g_cl_sJ, g_ln_sJ, g_I_sJ, g_J_sJ, g_R_sJ, g_eI_sJ, g_eJ_sJ, g_eR_sJ, g_tg_uJ, g_cl_uJ, g_ln_uJ, g_I_uJ, g_J_uJ, g_R_uJ, g_eI_uJ, g_eJ_uJ, g_eR_uJ, g_tg_sR, g_cl_sR, g_ln_sR, g_I_sR, g_J_sR, g_R_sR, g_eI_sR, g_eJ_sR, g_eR_sR, g_tg_uR, g_cl_uR, g_ln_uR, g_I_uR, g_J_uR, g_R_uR, g_eI_uR, g_eJ_uR, g_eR_uR, g_tg_new, g_cl_new, g_ln_new, g_I_new, g_J_new, g_R_new, g_eI_new, g_eJ_new, g_eR_new, g_tg_arr, g_cl_arr, g_ln_arr, g_I_arr, g_J_arr, g_R_arr, g_eI_arr, g_eJ_arr, g_eR_arr]
  · rw [va_up_ne _ _ hb]; exact cell_sI_ne σ _ _ _ hb
theorem put_1_1 (σ : ST) (a : Nat) (v : Option Nat) (h : st_tg σ a = some 1) : st_cell (st_sR σ 41 a v) = va_up (st_cell σ) a (some (.inr (1, (fl_1 σ a).set 1 (va_rf v)))) := by
  funext b
  by_cases hb : b = a
  · subst hb; rw [va_up_self, cell_1 (σ := st_sR σ 41 b v) (by rw [g_tg_sR]; exact h)]; simp [g_tg_sI, g_cl_sI, g_ln_sI, g_I_sI, g_J_sI, g_R_sI, g_eI_sI, g_eJ_sI, g_eR_sI, g_tg_uI, g_cl_uI, g_ln_uI, g_I_uI, g_J_uI, g_R_uI, g_eI_uI, g_eJ_uI, g_eR_uI, g_tg_sJ, g_cl_sJ, g_ln_sJ, g_I_sJ, g_J_sJ, g_R_sJ, g_eI_sJ, g_eJ_sJ, g_eR_sJ, g_tg_uJ, g_cl_uJ, g_ln_uJ, g_I_uJ, g_J_uJ, g_R_uJ, g_eI_uJ, g_eJ_uJ, g_eR_uJ, g_tg_sR, g_cl_sR, g_ln_sR, g_I_sR, g_J_sR, g_R_sR, g_eI_sR, g_eJ_sR, g_eR_sR, g_tg_uR, g_cl_uR, g_ln_uR, g_I_uR, g_J_uR, g_R_uR, g_eI_uR, g_eJ_uR, g_eR_uR, g_tg_new, g_cl_new, g_ln_new, g_I_new, g_J_new, g_R_new, g_eI_new, g_eJ_new, g_eR_new, g_tg_arr, g_cl_arr, g_ln_arr, g_I_arr, g_J_arr, g_R_arr, g_eI_arr, g_eJ_arr, g_eR_arr]
  · rw [va_up_ne _ _ hb]; exact cell_sR_ne σ _ _ _ hb
theorem put_1_2 (σ : ST) (a : Nat) (v : Option Nat) (h : st_tg σ a = some 1) : st_cell (st_sR σ 42 a v) = va_up (st_cell σ) a (some (.inr (1, (fl_1 σ a).set 2 (va_rf v)))) := by
  funext b
  by_cases hb : b = a
  · subst hb; rw [va_up_self, cell_1 (σ := st_sR σ 42 b v) (by rw [g_tg_sR]; exact h)]; simp [g_tg_sI, g_cl_sI, g_ln_sI, g_I_sI, g_J_sI, g_R_sI, g_eI_sI, g_eJ_sI, g_eR_sI, g_tg_uI, g_cl_uI, g_ln_uI, g_I_uI, g_J_uI, g_R_uI, g_eI_uI, g_eJ_uI, g_eR_uI, g_tg_sJ, g_cl_sJ, g_ln_sJ, g_I_sJ, g_J_sJ, g_R_sJ, g_eI_sJ, g_eJ_sJ, g_eR_sJ, g_tg_uJ, g_cl_uJ, g_ln_uJ, g_I_uJ, g_J_uJ, g_R_uJ, g_eI_uJ, g_eJ_uJ, g_eR_uJ, g_tg_sR, g_cl_sR, g_ln_sR, g_I_sR, g_J_sR, g_R_sR, g_eI_sR, g_eJ_sR, g_eR_sR, g_tg_uR, g_cl_uR, g_ln_uR, g_I_uR, g_J_uR, g_R_uR, g_eI_uR, g_eJ_uR, g_eR_uR, g_tg_new, g_cl_new, g_ln_new, g_I_new, g_J_new, g_R_new, g_eI_new, g_eJ_new, g_eR_new, g_tg_arr, g_cl_arr, g_ln_arr, g_I_arr, g_J_arr, g_R_arr, g_eI_arr, g_eJ_arr, g_eR_arr]
  · rw [va_up_ne _ _ hb]; exact cell_sR_ne σ _ _ _ hb
theorem put_1_3 (σ : ST) (a : Nat) (v : Option Nat) (h : st_tg σ a = some 1) : st_cell (st_sR σ 43 a v) = va_up (st_cell σ) a (some (.inr (1, (fl_1 σ a).set 3 (va_rf v)))) := by
  funext b
  by_cases hb : b = a
  · subst hb; rw [va_up_self, cell_1 (σ := st_sR σ 43 b v) (by rw [g_tg_sR]; exact h)]; simp [g_tg_sI, g_cl_sI, g_ln_sI, g_I_sI, g_J_sI, g_R_sI, g_eI_sI, g_eJ_sI, g_eR_sI, g_tg_uI, g_cl_uI, g_ln_uI, g_I_uI, g_J_uI, g_R_uI, g_eI_uI, g_eJ_uI, g_eR_uI, g_tg_sJ, g_cl_sJ, g_ln_sJ, g_I_sJ, g_J_sJ, g_R_sJ, g_eI_sJ, g_eJ_sJ, g_eR_sJ, g_tg_uJ, g_cl_uJ, g_ln_uJ, g_I_uJ, g_J_uJ, g_R_uJ, g_eI_uJ, g_eJ_uJ, g_eR_uJ, g_tg_sR, g_cl_sR, g_ln_sR, g_I_sR, g_J_sR, g_R_sR, g_eI_sR, g_eJ_sR, g_eR_sR, g_tg_uR, g_cl_uR, g_ln_uR, g_I_uR, g_J_uR, g_R_uR, g_eI_uR, g_eJ_uR, g_eR_uR, g_tg_new, g_cl_new, g_ln_new, g_I_new, g_J_new, g_R_new, g_eI_new, g_eJ_new, g_eR_new, g_tg_arr, g_cl_arr, g_ln_arr, g_I_arr, g_J_arr, g_R_arr, g_eI_arr, g_eJ_arr, g_eR_arr]
  · rw [va_up_ne _ _ hb]; exact cell_sR_ne σ _ _ _ hb
theorem put_1_4 (σ : ST) (a : Nat) (v : Option Nat) (h : st_tg σ a = some 1) : st_cell (st_sR σ 44 a v) = va_up (st_cell σ) a (some (.inr (1, (fl_1 σ a).set 4 (va_rf v)))) := by
  funext b
  by_cases hb : b = a
  · subst hb; rw [va_up_self, cell_1 (σ := st_sR σ 44 b v) (by rw [g_tg_sR]; exact h)]; simp [g_tg_sI, g_cl_sI, g_ln_sI, g_I_sI, g_J_sI, g_R_sI, g_eI_sI, g_eJ_sI, g_eR_sI, g_tg_uI, g_cl_uI, g_ln_uI, g_I_uI, g_J_uI, g_R_uI, g_eI_uI, g_eJ_uI, g_eR_uI, g_tg_sJ, g_cl_sJ, g_ln_sJ, g_I_sJ, g_J_sJ, g_R_sJ, g_eI_sJ, g_eJ_sJ, g_eR_sJ, g_tg_uJ, g_cl_uJ, g_ln_uJ, g_I_uJ, g_J_uJ, g_R_uJ, g_eI_uJ, g_eJ_uJ, g_eR_uJ, g_tg_sR, g_cl_sR, g_ln_sR, g_I_sR, g_J_sR, g_R_sR, g_eI_sR, g_eJ_sR, g_eR_sR, g_tg_uR, g_cl_uR, g_ln_uR, g_I_uR, g_J_uR, g_R_uR, g_eI_uR, g_eJ_uR, g_eR_uR, g_tg_new, g_cl_new, g_ln_new, g_I_new, g_J_new, g_R_new, g_eI_new, g_eJ_new, g_eR_new, g_tg_arr, g_cl_arr, g_ln_arr, g_I_arr, g_J_arr, g_R_arr, g_eI_arr, g_eJ_arr, g_eR_arr]
  · rw [va_up_ne _ _ hb]; exact cell_sR_ne σ _ _ _ hb
theorem put_1_5 (σ : ST) (a : Nat) (v : Option Nat) (h : st_tg σ a = some 1) : st_cell (st_sR σ 45 a v) = va_up (st_cell σ) a (some (.inr (1, (fl_1 σ a).set 5 (va_rf v)))) := by
  funext b
  by_cases hb : b = a
  · subst hb; rw [va_up_self, cell_1 (σ := st_sR σ 45 b v) (by rw [g_tg_sR]; exact h)]; simp [g_tg_sI, g_cl_sI, g_ln_sI, g_I_sI, g_J_sI, g_R_sI, g_eI_sI, g_eJ_sI, g_eR_sI, g_tg_uI, g_cl_uI, g_ln_uI, g_I_uI, g_J_uI, g_R_uI, g_eI_uI, g_eJ_uI, g_eR_uI, g_tg_sJ, g_cl_sJ, g_ln_sJ, g_I_sJ, g_J_sJ, g_R_sJ, g_eI_sJ, g_eJ_sJ, g_eR_sJ, g_tg_uJ, g_cl_uJ, g_ln_uJ, g_I_uJ, g_J_uJ, g_R_uJ, g_eI_uJ, g_eJ_uJ, g_eR_uJ, g_tg_sR, g_cl_sR, g_ln_sR, g_I_sR, g_J_sR, g_R_sR, g_eI_sR, g_eJ_sR, g_eR_sR, g_tg_uR, g_cl_uR, g_ln_uR, g_I_uR, g_J_uR, g_R_uR, g_eI_uR, g_eJ_uR, g_eR_uR, g_tg_new, g_cl_new, g_ln_new, g_I_new, g_J_new, g_R_new, g_eI_new, g_eJ_new, g_eR_new, g_tg_arr, g_cl_arr, g_ln_arr, g_I_arr, g_J_arr, g_R_arr, g_eI_arr, g_eJ_arr, g_eR_arr]
  · rw [va_up_ne _ _ hb]; exact cell_sR_ne σ _ _ _ hb
theorem put_1_6 (σ : ST) (a : Nat) (v : Option Nat) (h : st_tg σ a = some 1) : st_cell (st_sR σ 46 a v) = va_up (st_cell σ) a (some (.inr (1, (fl_1 σ a).set 6 (va_rf v)))) := by
  funext b
  by_cases hb : b = a
  · subst hb; rw [va_up_self, cell_1 (σ := st_sR σ 46 b v) (by rw [g_tg_sR]; exact h)]; simp [g_tg_sI, g_cl_sI, g_ln_sI, g_I_sI, g_J_sI, g_R_sI, g_eI_sI, g_eJ_sI, g_eR_sI, g_tg_uI, g_cl_uI, g_ln_uI, g_I_uI, g_J_uI, g_R_uI, g_eI_uI, g_eJ_uI, g_eR_uI, g_tg_sJ, g_cl_sJ, g_ln_sJ, g_I_sJ, g_J_sJ, g_R_sJ, g_eI_sJ, g_eJ_sJ, g_eR_sJ, g_tg_uJ, g_cl_uJ, g_ln_uJ, g_I_uJ, g_J_uJ, g_R_uJ, g_eI_uJ, g_eJ_uJ, g_eR_uJ, g_tg_sR, g_cl_sR, g_ln_sR, g_I_sR, g_J_sR, g_R_sR, g_eI_sR, g_eJ_sR, g_eR_sR, g_tg_uR, g_cl_uR, g_ln_uR, g_I_uR, g_J_uR, g_R_uR, g_eI_uR, g_eJ_uR, g_eR_uR, g_tg_new, g_cl_new, g_ln_new, g_I_new, g_J_new, g_R_new, g_eI_new, g_eJ_new, g_eR_new, g_tg_arr, g_cl_arr, g_ln_arr, g_I_arr, g_J_arr, g_R_arr, g_eI_arr, g_eJ_arr, g_eR_arr]
  · rw [va_up_ne _ _ hb]; exact cell_sR_ne σ _ _ _ hb
theorem put_1_7 (σ : ST) (a : Nat) (v : Option Nat) (h : st_tg σ a = some 1) : st_cell (st_sR σ 47 a v) = va_up (st_cell σ) a (some (.inr (1, (fl_1 σ a).set 7 (va_rf v)))) := by
  funext b
  by_cases hb : b = a
  · subst hb; rw [va_up_self, cell_1 (σ := st_sR σ 47 b v) (by rw [g_tg_sR]; exact h)]; simp [g_tg_sI, g_cl_sI, g_ln_sI, g_I_sI, g_J_sI, g_R_sI, g_eI_sI, g_eJ_sI, g_eR_sI, g_tg_uI, g_cl_uI, g_ln_uI, g_I_uI, g_J_uI, g_R_uI, g_eI_uI, g_eJ_uI, g_eR_uI, g_tg_sJ, g_cl_sJ, g_ln_sJ, g_I_sJ, g_J_sJ, g_R_sJ, g_eI_sJ, g_eJ_sJ, g_eR_sJ, g_tg_uJ, g_cl_uJ, g_ln_uJ, g_I_uJ, g_J_uJ, g_R_uJ, g_eI_uJ, g_eJ_uJ, g_eR_uJ, g_tg_sR, g_cl_sR, g_ln_sR, g_I_sR, g_J_sR, g_R_sR, g_eI_sR, g_eJ_sR, g_eR_sR, g_tg_uR, g_cl_uR, g_ln_uR, g_I_uR, g_J_uR, g_R_uR, g_eI_uR, g_eJ_uR, g_eR_uR, g_tg_new, g_cl_new, g_ln_new, g_I_new, g_J_new, g_R_new, g_eI_new, g_eJ_new, g_eR_new, g_tg_arr, g_cl_arr, g_ln_arr, g_I_arr, g_J_arr, g_R_arr, g_eI_arr, g_eJ_arr, g_eR_arr]
  · rw [va_up_ne _ _ hb]; exact cell_sR_ne σ _ _ _ hb
theorem put_1_8 (σ : ST) (a : Nat) (v : Option Nat) (h : st_tg σ a = some 1) : st_cell (st_sR σ 48 a v) = va_up (st_cell σ) a (some (.inr (1, (fl_1 σ a).set 8 (va_rf v)))) := by
  funext b
  by_cases hb : b = a
  · subst hb; rw [va_up_self, cell_1 (σ := st_sR σ 48 b v) (by rw [g_tg_sR]; exact h)]; simp [g_tg_sI, g_cl_sI, g_ln_sI, g_I_sI, g_J_sI, g_R_sI, g_eI_sI, g_eJ_sI, g_eR_sI, g_tg_uI, g_cl_uI, g_ln_uI, g_I_uI, g_J_uI, g_R_uI, g_eI_uI, g_eJ_uI, g_eR_uI, g_tg_sJ, g_cl_sJ, g_ln_sJ, g_I_sJ, g_J_sJ, g_R_sJ, g_eI_sJ, g_eJ_sJ, g_eR_sJ, g_tg_uJ, g_cl_uJ, g_ln_uJ, g_I_uJ, g_J_uJ, g_R_uJ, g_eI_uJ, g_eJ_uJ, g_eR_uJ, g_tg_sR, g_cl_sR, g_ln_sR, g_I_sR, g_J_sR, g_R_sR, g_eI_sR, g_eJ_sR, g_eR_sR, g_tg_uR, g_cl_uR, g_ln_uR, g_I_uR, g_J_uR, g_R_uR, g_eI_uR, g_eJ_uR, g_eR_uR, g_tg_new, g_cl_new, g_ln_new, g_I_new, g_J_new, g_R_new, g_eI_new, g_eJ_new, g_eR_new, g_tg_arr, g_cl_arr, g_ln_arr, g_I_arr, g_J_arr, g_R_arr, g_eI_arr, g_eJ_arr, g_eR_arr]
  · rw [va_up_ne _ _ hb]; exact cell_sR_ne σ _ _ _ hb
theorem put_1_9 (σ : ST) (a : Nat) (v : Option Nat) (h : st_tg σ a = some 1) : st_cell (st_sR σ 49 a v) = va_up (st_cell σ) a (some (.inr (1, (fl_1 σ a).set 9 (va_rf v)))) := by
  funext b
  by_cases hb : b = a
  · subst hb; rw [va_up_self, cell_1 (σ := st_sR σ 49 b v) (by rw [g_tg_sR]; exact h)]; simp [g_tg_sI, g_cl_sI, g_ln_sI, g_I_sI, g_J_sI, g_R_sI, g_eI_sI, g_eJ_sI, g_eR_sI, g_tg_uI, g_cl_uI, g_ln_uI, g_I_uI, g_J_uI, g_R_uI, g_eI_uI, g_eJ_uI, g_eR_uI, g_tg_sJ, g_cl_sJ, g_ln_sJ, g_I_sJ, g_J_sJ, g_R_sJ, g_eI_sJ, g_eJ_sJ, g_eR_sJ, g_tg_uJ, g_cl_uJ, g_ln_uJ, g_I_uJ, g_J_uJ, g_R_uJ, g_eI_uJ, g_eJ_uJ, g_eR_uJ, g_tg_sR, g_cl_sR, g_ln_sR, g_I_sR, g_J_sR, g_R_sR, g_eI_sR, g_eJ_sR, g_eR_sR, g_tg_uR, g_cl_uR, g_ln_uR, g_I_uR, g_J_uR, g_R_uR, g_eI_uR, g_eJ_uR, g_eR_uR, g_tg_new, g_cl_new, g_ln_new, g_I_new, g_J_new, g_R_new, g_eI_new, g_eJ_new, g_eR_new, g_tg_arr, g_cl_arr, g_ln_arr, g_I_arr, g_J_arr, g_R_arr, g_eI_arr, g_eJ_arr, g_eR_arr]
  · rw [va_up_ne _ _ hb]; exact cell_sR_ne σ _ _ _ hb
theorem put_1_10 (σ : ST) (a : Nat) (v : Option Nat) (h : st_tg σ a = some 1) : st_cell (st_sR σ 50 a v) = va_up (st_cell σ) a (some (.inr (1, (fl_1 σ a).set 10 (va_rf v)))) := by
  funext b
  by_cases hb : b = a
  · subst hb; rw [va_up_self, cell_1 (σ := st_sR σ 50 b v) (by rw [g_tg_sR]; exact h)]; simp [g_tg_sI, g_cl_sI, g_ln_sI, g_I_sI, g_J_sI, g_R_sI, g_eI_sI, g_eJ_sI, g_eR_sI, g_tg_uI, g_cl_uI, g_ln_uI, g_I_uI, g_J_uI, g_R_uI, g_eI_uI, g_eJ_uI, g_eR_uI, g_tg_sJ, g_cl_sJ, g_ln_sJ, g_I_sJ, g_J_sJ, g_R_sJ, g_eI_sJ, g_eJ_sJ, g_eR_sJ, g_tg_uJ, g_cl_uJ, g_ln_uJ, g_I_uJ, g_J_uJ, g_R_uJ, g_eI_uJ, g_eJ_uJ, g_eR_uJ, g_tg_sR, g_cl_sR, g_ln_sR, g_I_sR, g_J_sR, g_R_sR, g_eI_sR, g_eJ_sR, g_eR_sR, g_tg_uR, g_cl_uR, g_ln_uR, g_I_uR, g_J_uR, g_R_uR, g_eI_uR, g_eJ_uR, g_eR_uR, g_tg_new, g_cl_new, g_ln_new, g_I_new, g_J_new, g_R_new, g_eI_new, g_eJ_new, g_eR_new, g_tg_arr, g_cl_arr, g_ln_arr, g_I_arr, g_J_arr, g_R_arr, g_eI_arr, g_eJ_arr, g_eR_arr]
  · rw [va_up_ne _ _ hb]; exact cell_sR_ne σ _ _ _ hb
theorem put_1_11 (σ : ST) (a : Nat) (v : Option Nat) (h : st_tg σ a = some 1) : st_cell (st_sR σ 51 a v) = va_up (st_cell σ) a (some (.inr (1, (fl_1 σ a).set 11 (va_rf v)))) := by
  funext b
  by_cases hb : b = a
  · subst hb; rw [va_up_self, cell_1 (σ := st_sR σ 51 b v) (by rw [g_tg_sR]; exact h)]; simp [g_tg_sI, g_cl_sI, g_ln_sI, g_I_sI, g_J_sI, g_R_sI, g_eI_sI, g_eJ_sI, g_eR_sI, g_tg_uI, g_cl_uI, g_ln_uI, g_I_uI, g_J_uI, g_R_uI, g_eI_uI, g_eJ_uI, g_eR_uI, g_tg_sJ, g_cl_sJ, g_ln_sJ, g_I_sJ, g_J_sJ, g_R_sJ, g_eI_sJ, g_eJ_sJ, g_eR_sJ, g_tg_uJ, g_cl_uJ, g_ln_uJ, g_I_uJ, g_J_uJ, g_R_uJ, g_eI_uJ, g_eJ_uJ, g_eR_uJ, g_tg_sR, g_cl_sR, g_ln_sR, g_I_sR, g_J_sR, g_R_sR, g_eI_sR, g_eJ_sR, g_eR_sR, g_tg_uR, g_cl_uR, g_ln_uR, g_I_uR, g_J_uR, g_R_uR, g_eI_uR, g_eJ_uR, g_eR_uR, g_tg_new, g_cl_new, g_ln_new, g_I_new, g_J_new, g_R_new, g_eI_new, g_eJ_new, g_eR_new, g_tg_arr, g_cl_arr, g_ln_arr, g_I_arr, g_J_arr, g_R_arr, g_eI_arr, g_eJ_arr, g_eR_arr]
  · rw [va_up_ne _ _ hb]; exact cell_sR_ne σ _ _ _ hb
theorem put_1_12 (σ : ST) (a : Nat) (v : Option Nat) (h : st_tg σ a = some 1) : st_cell (st_sR σ 52 a v) = va_up (st_cell σ) a (some (.inr (1, (fl_1 σ a).set 12 (va_rf v)))) := by
  funext b
  by_cases hb : b = a
  · subst hb; rw [va_up_self, cell_1 (σ := st_sR σ 52 b v) (by rw [g_tg_sR]; exact h)]; simp [g_tg_sI, g_cl_sI, g_ln_sI, g_I_sI, g_J_sI, g_R_sI, g_eI_sI, g_eJ_sI, g_eR_sI, g_tg_uI, g_cl_uI, g_ln_uI, g_I_uI, g_J_uI, g_R_uI, g_eI_uI, g_eJ_uI, g_eR_uI, g_tg_sJ, g_cl_sJ, g_ln_sJ, g_I_sJ, g_J_sJ, g_R_sJ, g_eI_sJ, g_eJ_sJ, g_eR_sJ, g_tg_uJ, g_cl_uJ, g_ln_uJ, g_I_uJ, g_J_uJ, g_R_uJ, g_eI_uJ, g_eJ_uJ, g_eR_uJ, g_tg_sR, g_cl_sR, g_ln_sR, g_I_sR, g_J_sR, g_R_sR, g_eI_sR, g_eJ_sR, g_eR_sR, g_tg_uR, g_cl_uR, g_ln_uR, g_I_uR, g_J_uR, g_R_uR, g_eI_uR, g_eJ_uR, g_eR_uR, g_tg_new, g_cl_new, g_ln_new, g_I_new, g_J_new, g_R_new, g_eI_new, g_eJ_new, g_eR_new, g_tg_arr, g_cl_arr, g_ln_arr, g_I_arr, g_J_arr, g_R_arr, g_eI_arr, g_eJ_arr, g_eR_arr]
  · rw [va_up_ne _ _ hb]; exact cell_sR_ne σ _ _ _ hb
theorem put_1_13 (σ : ST) (a : Nat) (v : Option Nat) (h : st_tg σ a = some 1) : st_cell (st_sR σ 53 a v) = va_up (st_cell σ) a (some (.inr (1, (fl_1 σ a).set 13 (va_rf v)))) := by
  funext b
  by_cases hb : b = a
  · subst hb; rw [va_up_self, cell_1 (σ := st_sR σ 53 b v) (by rw [g_tg_sR]; exact h)]; simp [g_tg_sI, g_cl_sI, g_ln_sI, g_I_sI, g_J_sI, g_R_sI, g_eI_sI, g_eJ_sI, g_eR_sI, g_tg_uI, g_cl_uI, g_ln_uI, g_I_uI, g_J_uI, g_R_uI, g_eI_uI, g_eJ_uI, g_eR_uI, g_tg_sJ, g_cl_sJ, g_ln_sJ, g_I_sJ, g_J_sJ, g_R_sJ, g_eI_sJ, g_eJ_sJ, g_eR_sJ, g_tg_uJ, g_cl_uJ, g_ln_uJ, g_I_uJ, g_J_uJ, g_R_uJ, g_eI_uJ, g_eJ_uJ, g_eR_uJ, g_tg_sR, g_cl_sR, g_ln_sR, g_I_sR, g_J_sR, g_R_sR, g_eI_sR, g_eJ_sR, g_eR_sR, g_tg_uR, g_cl_uR, g_ln_uR, g_I_uR, g_J_uR, g_R_uR, g_eI_uR, g_eJ_uR, g_eR_uR, g_tg_new, g_cl_new, g_ln_new, g_I_new, g_J_new, g_R_new, g_eI_new, g_eJ_new, g_eR_new, g_tg_arr, g_cl_arr, g_ln_arr, g_I_arr, g_J_arr, g_R_arr, g_eI_arr, g_eJ_arr, g_eR_arr]
  · rw [va_up_ne _ _ hb]; exact cell_sR_ne σ _ _ _ hb
theorem put_1_14 (σ : ST) (a : Nat) (v : Option Nat) (h : st_tg σ a = some 1) : st_cell (st_sR σ 54 a v) = va_up (st_cell σ) a (some (.inr (1, (fl_1 σ a).set 14 (va_rf v)))) := by
  funext b
  by_cases hb : b = a
  · subst hb; rw [va_up_self, cell_1 (σ := st_sR σ 54 b v) (by rw [g_tg_sR]; exact h)]; simp [g_tg_sI, g_cl_sI, g_ln_sI, g_I_sI, g_J_sI, g_R_sI, g_eI_sI, g_eJ_sI, g_eR_sI, g_tg_uI, g_cl_uI, g_ln_uI, g_I_uI, g_J_uI, g_R_uI, g_eI_uI, g_eJ_uI, g_eR_uI, g_tg_sJ, g_cl_sJ, g_ln_sJ, g_I_sJ, g_J_sJ, g_R_sJ, g_eI_sJ, g_eJ_sJ, g_eR_sJ, g_tg_uJ, g_cl_uJ, g_ln_uJ, g_I_uJ, g_J_uJ, g_R_uJ, g_eI_uJ, g_eJ_uJ, g_eR_uJ, g_tg_sR, g_cl_sR, g_ln_sR, g_I_sR, g_J_sR, g_R_sR, g_eI_sR, g_eJ_sR, g_eR_sR, g_tg_uR, g_cl_uR, g_ln_uR, g_I_uR, g_J_uR, g_R_uR, g_eI_uR, g_eJ_uR, g_eR_uR, g_tg_new, g_cl_new, g_ln_new, g_I_new, g_J_new, g_R_new, g_eI_new, g_eJ_new, g_eR_new, g_tg_arr, g_cl_arr, g_ln_arr, g_I_arr, g_J_arr, g_R_arr, g_eI_arr, g_eJ_arr, g_eR_arr]
  · rw [va_up_ne _ _ hb]; exact cell_sR_ne σ _ _ _ hb
theorem put_1_15 (σ : ST) (a : Nat) (v : Option Nat) (h : st_tg σ a = some 1) : st_cell (st_sR σ 55 a v) = va_up (st_cell σ) a (some (.inr (1, (fl_1 σ a).set 15 (va_rf v)))) := by
  funext b
  by_cases hb : b = a
  · subst hb; rw [va_up_self, cell_1 (σ := st_sR σ 55 b v) (by rw [g_tg_sR]; exact h)]; simp [g_tg_sI, g_cl_sI, g_ln_sI, g_I_sI, g_J_sI, g_R_sI, g_eI_sI, g_eJ_sI, g_eR_sI, g_tg_uI, g_cl_uI, g_ln_uI, g_I_uI, g_J_uI, g_R_uI, g_eI_uI, g_eJ_uI, g_eR_uI, g_tg_sJ, g_cl_sJ, g_ln_sJ, g_I_sJ, g_J_sJ, g_R_sJ, g_eI_sJ, g_eJ_sJ, g_eR_sJ, g_tg_uJ, g_cl_uJ, g_ln_uJ, g_I_uJ, g_J_uJ, g_R_uJ, g_eI_uJ, g_eJ_uJ, g_eR_uJ, g_tg_sR, g_cl_sR, g_ln_sR, g_I_sR, g_J_sR, g_R_sR, g_eI_sR, g_eJ_sR, g_eR_sR, g_tg_uR, g_cl_uR, g_ln_uR, g_I_uR, g_J_uR, g_R_uR, g_eI_uR, g_eJ_uR, g_eR_uR, g_tg_new, g_cl_new, g_ln_new, g_I_new, g_J_new, g_R_new, g_eI_new, g_eJ_new, g_eR_new, g_tg_arr, g_cl_arr, g_ln_arr, g_I_arr, g_J_arr, g_R_arr, g_eI_arr, g_eJ_arr, g_eR_arr]
  · rw [va_up_ne _ _ hb]; exact cell_sR_ne σ _ _ _ hb
theorem put_1_16 (σ : ST) (a : Nat) (v : Option Nat) (h : st_tg σ a = some 1) : st_cell (st_sR σ 56 a v) = va_up (st_cell σ) a (some (.inr (1, (fl_1 σ a).set 16 (va_rf v)))) := by
  funext b
  by_cases hb : b = a
  · subst hb; rw [va_up_self, cell_1 (σ := st_sR σ 56 b v) (by rw [g_tg_sR]; exact h)]; simp [g_tg_sI, g_cl_sI, g_ln_sI, g_I_sI, g_J_sI, g_R_sI, g_eI_sI, g_eJ_sI, g_eR_sI, g_tg_uI, g_cl_uI, g_ln_uI, g_I_uI, g_J_uI, g_R_uI, g_eI_uI, g_eJ_uI, g_eR_uI, g_tg_sJ, g_cl_sJ, g_ln_sJ, g_I_sJ, g_J_sJ, g_R_sJ, g_eI_sJ, g_eJ_sJ, g_eR_sJ, g_tg_uJ, g_cl_uJ, g_ln_uJ, g_I_uJ, g_J_uJ, g_R_uJ, g_eI_uJ, g_eJ_uJ, g_eR_uJ, g_tg_sR, g_cl_sR, g_ln_sR, g_I_sR, g_J_sR, g_R_sR, g_eI_sR, g_eJ_sR, g_eR_sR, g_tg_uR, g_cl_uR, g_ln_uR, g_I_uR, g_J_uR, g_R_uR, g_eI_uR, g_eJ_uR, g_eR_uR, g_tg_new, g_cl_new, g_ln_new, g_I_new, g_J_new, g_R_new, g_eI_new, g_eJ_new, g_eR_new, g_tg_arr, g_cl_arr, g_ln_arr, g_I_arr, g_J_arr, g_R_arr, g_eI_arr, g_eJ_arr, g_eR_arr]
  · rw [va_up_ne _ _ hb]; exact cell_sR_ne σ _ _ _ hb
theorem put_1_17 (σ : ST) (a : Nat) (v : Option Nat) (h : st_tg σ a = some 1) : st_cell (st_sR σ 57 a v) = va_up (st_cell σ) a (some (.inr (1, (fl_1 σ a).set 17 (va_rf v)))) := by
  funext b
  by_cases hb : b = a
  · subst hb; rw [va_up_self, cell_1 (σ := st_sR σ 57 b v) (by rw [g_tg_sR]; exact h)]; simp [g_tg_sI, g_cl_sI, g_ln_sI, g_I_sI, g_J_sI, g_R_sI, g_eI_sI, g_eJ_sI, g_eR_sI, g_tg_uI, g_cl_uI, g_ln_uI, g_I_uI, g_J_uI, g_R_uI, g_eI_uI, g_eJ_uI, g_eR_uI, g_tg_sJ, g_cl_sJ, g_ln_sJ, g_I_sJ, g_J_sJ, g_R_sJ, g_eI_sJ, g_eJ_sJ, g_eR_sJ, g_tg_uJ, g_cl_uJ, g_ln_uJ, g_I_uJ, g_J_uJ, g_R_uJ, g_eI_uJ, g_eJ_uJ, g_eR_uJ, g_tg_sR, g_cl_sR, g_ln_sR, g_I_sR, g_J_sR, g_R_sR, g_eI_sR, g_eJ_sR, g_eR_sR, g_tg_uR, g_cl_uR, g_ln_uR, g_I_uR, g_J_uR, g_R_uR, g_eI_uR, g_eJ_uR, g_eR_uR, g_tg_new, g_cl_new, g_ln_new, g_I_new, g_J_new, g_R_new, g_eI_new, g_eJ_new, g_eR_new, g_tg_arr, g_cl_arr, g_ln_arr, g_I_arr, g_J_arr, g_R_arr, g_eI_arr, g_eJ_arr, g_eR_arr]
  · rw [va_up_ne _ _ hb]; exact cell_sR_ne σ _ _ _ hb
theorem put_1_18 (σ : ST) (a : Nat) (v : Option Nat) (h : st_tg σ a = some 1) : st_cell (st_sR σ 58 a v) = va_up (st_cell σ) a (some (.inr (1, (fl_1 σ a).set 18 (va_rf v)))) := by
  funext b
  by_cases hb : b = a
  · subst hb; rw [va_up_self, cell_1 (σ := st_sR σ 58 b v) (by rw [g_tg_sR]; exact h)]; simp [g_tg_sI, g_cl_sI, g_ln_sI, g_I_sI, g_J_sI, g_R_sI, g_eI_sI, g_eJ_sI, g_eR_sI, g_tg_uI, g_cl_uI, g_ln_uI, g_I_uI, g_J_uI, g_R_uI, g_eI_uI, g_eJ_uI, g_eR_uI, g_tg_sJ, g_cl_sJ, g_ln_sJ, g_I_sJ, g_J_sJ, g_R_sJ, g_eI_sJ, g_eJ_sJ, g_eR_sJ, g_tg_uJ, g_cl_uJ, g_ln_uJ, g_I_uJ, g_J_uJ, g_R_uJ, g_eI_uJ, g_eJ_uJ, g_eR_uJ, g_tg_sR, g_cl_sR, g_ln_sR, g_I_sR, g_J_sR, g_R_sR, g_eI_sR, g_eJ_sR, g_eR_sR, g_tg_uR, g_cl_uR, g_ln_uR, g_I_uR, g_J_uR, g_R_uR, g_eI_uR, g_eJ_uR, g_eR_uR, g_tg_new, g_cl_new, g_ln_new, g_I_new, g_J_new, g_R_new, g_eI_new, g_eJ_new, g_eR_new, g_tg_arr, g_cl_arr, g_ln_arr, g_I_arr, g_J_arr, g_R_arr, g_eI_arr, g_eJ_arr, g_eR_arr]
  · rw [va_up_ne _ _ hb]; exact cell_sR_ne σ _ _ _ hb
theorem put_1_19 (σ : ST) (a : Nat) (v : Option Nat) (h : st_tg σ a = some 1) : st_cell (st_sR σ 59 a v) = va_up (st_cell σ) a (some (.inr (1, (fl_1 σ a).set 19 (va_rf v)))) := by
  funext b
  by_cases hb : b = a
  · subst hb; rw [va_up_self, cell_1 (σ := st_sR σ 59 b v) (by rw [g_tg_sR]; exact h)]; simp [g_tg_sI, g_cl_sI, g_ln_sI, g_I_sI, g_J_sI, g_R_sI, g_eI_sI, g_eJ_sI, g_eR_sI, g_tg_uI, g_cl_uI, g_ln_uI, g_I_uI, g_J_uI, g_R_uI, g_eI_uI, g_eJ_uI, g_eR_uI, g_tg_sJ, g_cl_sJ, g_ln_sJ, g_I_sJ, g_J_sJ, g_R_sJ, g_eI_sJ, g_eJ_sJ, g_eR_sJ, g_tg_uJ, g_cl_uJ, g_ln_uJ, g_I_uJ, g_J_uJ, g_R_uJ, g_eI_uJ, g_eJ_uJ, g_eR_uJ, g_tg_sR, g_cl_sR, g_ln_sR, g_I_sR, g_J_sR, g_R_sR, g_eI_sR, g_eJ_sR, g_eR_sR, g_tg_uR, g_cl_uR, g_ln_uR, g_I_uR, g_J_uR, g_R_uR, g_eI_uR, g_eJ_uR, g_eR_uR, g_tg_new, g_cl_new, g_ln_new, g_I_new, g_J_new, g_R_new, g_eI_new, g_eJ_new, g_eR_new, g_tg_arr, g_cl_arr, g_ln_arr, g_I_arr, g_J_arr, g_R_arr, g_eI_arr, g_eJ_arr, g_eR_arr]
  · rw [va_up_ne _ _ hb]; exact cell_sR_ne σ _ _ _ hb
theorem put_1_20 (σ : ST) (a : Nat) (v : Int32) (h : st_tg σ a = some 1) : st_cell (st_sI σ 60 a v) = va_up (st_cell σ) a (some (.inr (1, (fl_1 σ a).set 20 (.int v)))) := by
  funext b
  by_cases hb : b = a
  · subst hb; rw [va_up_self, cell_1 (σ := st_sI σ 60 b v) (by rw [g_tg_sI]; exact h)]; simp [g_tg_sI, g_cl_sI, g_ln_sI, g_I_sI, g_J_sI, g_R_sI, g_eI_sI, g_eJ_sI, g_eR_sI, g_tg_uI, g_cl_uI, g_ln_uI, g_I_uI, g_J_uI, g_R_uI, g_eI_uI, g_eJ_uI, g_eR_uI, g_tg_sJ, g_cl_sJ, g_ln_sJ, g_I_sJ, g_J_sJ, g_R_sJ, g_eI_sJ, g_eJ_sJ, g_eR_sJ, g_tg_uJ, g_cl_uJ, g_ln_uJ, g_I_uJ, g_J_uJ, g_R_uJ, g_eI_uJ, g_eJ_uJ, g_eR_uJ, g_tg_sR, g_cl_sR, g_ln_sR, g_I_sR, g_J_sR, g_R_sR, g_eI_sR, g_eJ_sR, g_eR_sR, g_tg_uR, g_cl_uR, g_ln_uR, g_I_uR, g_J_uR, g_R_uR, g_eI_uR, g_eJ_uR, g_eR_uR, g_tg_new, g_cl_new, g_ln_new, g_I_new, g_J_new, g_R_new, g_eI_new, g_eJ_new, g_eR_new, g_tg_arr, g_cl_arr, g_ln_arr, g_I_arr, g_J_arr, g_R_arr, g_eI_arr, g_eJ_arr, g_eR_arr]
  · rw [va_up_ne _ _ hb]; exact cell_sI_ne σ _ _ _ hb
theorem put_1_21 (σ : ST) (a : Nat) (v : Int32) (h : st_tg σ a = some 1) : st_cell (st_sI σ 61 a v) = va_up (st_cell σ) a (some (.inr (1, (fl_1 σ a).set 21 (.int v)))) := by
  funext b
  by_cases hb : b = a
  · subst hb; rw [va_up_self, cell_1 (σ := st_sI σ 61 b v) (by rw [g_tg_sI]; exact h)]; simp [g_tg_sI, g_cl_sI, g_ln_sI, g_I_sI, g_J_sI, g_R_sI, g_eI_sI, g_eJ_sI, g_eR_sI, g_tg_uI, g_cl_uI, g_ln_uI, g_I_uI, g_J_uI, g_R_uI, g_eI_uI, g_eJ_uI, g_eR_uI, g_tg_sJ, g_cl_sJ, g_ln_sJ, g_I_sJ, g_J_sJ, g_R_sJ, g_eI_sJ, g_eJ_sJ, g_eR_sJ, g_tg_uJ, g_cl_uJ, g_ln_uJ, g_I_uJ, g_J_uJ, g_R_uJ, g_eI_uJ, g_eJ_uJ, g_eR_uJ, g_tg_sR, g_cl_sR, g_ln_sR, g_I_sR, g_J_sR, g_R_sR, g_eI_sR, g_eJ_sR, g_eR_sR, g_tg_uR, g_cl_uR, g_ln_uR, g_I_uR, g_J_uR, g_R_uR, g_eI_uR, g_eJ_uR, g_eR_uR, g_tg_new, g_cl_new, g_ln_new, g_I_new, g_J_new, g_R_new, g_eI_new, g_eJ_new, g_eR_new, g_tg_arr, g_cl_arr, g_ln_arr, g_I_arr, g_J_arr, g_R_arr, g_eI_arr, g_eJ_arr, g_eR_arr]
  · rw [va_up_ne _ _ hb]; exact cell_sI_ne σ _ _ _ hb
theorem put_1_22 (σ : ST) (a : Nat) (v : Option Nat) (h : st_tg σ a = some 1) : st_cell (st_sR σ 62 a v) = va_up (st_cell σ) a (some (.inr (1, (fl_1 σ a).set 22 (va_rf v)))) := by
  funext b
  by_cases hb : b = a
  · subst hb; rw [va_up_self, cell_1 (σ := st_sR σ 62 b v) (by rw [g_tg_sR]; exact h)]; simp [g_tg_sI, g_cl_sI, g_ln_sI, g_I_sI, g_J_sI, g_R_sI, g_eI_sI, g_eJ_sI, g_eR_sI, g_tg_uI, g_cl_uI, g_ln_uI, g_I_uI, g_J_uI, g_R_uI, g_eI_uI, g_eJ_uI, g_eR_uI, g_tg_sJ, g_cl_sJ, g_ln_sJ, g_I_sJ, g_J_sJ, g_R_sJ, g_eI_sJ, g_eJ_sJ, g_eR_sJ, g_tg_uJ, g_cl_uJ, g_ln_uJ, g_I_uJ, g_J_uJ, g_R_uJ, g_eI_uJ, g_eJ_uJ, g_eR_uJ, g_tg_sR, g_cl_sR, g_ln_sR, g_I_sR, g_J_sR, g_R_sR, g_eI_sR, g_eJ_sR, g_eR_sR, g_tg_uR, g_cl_uR, g_ln_uR, g_I_uR, g_J_uR, g_R_uR, g_eI_uR, g_eJ_uR, g_eR_uR, g_tg_new, g_cl_new, g_ln_new, g_I_new, g_J_new, g_R_new, g_eI_new, g_eJ_new, g_eR_new, g_tg_arr, g_cl_arr, g_ln_arr, g_I_arr, g_J_arr, g_R_arr, g_eI_arr, g_eJ_arr, g_eR_arr]
  · rw [va_up_ne _ _ hb]; exact cell_sR_ne σ _ _ _ hb
theorem put_1_23 (σ : ST) (a : Nat) (v : Option Nat) (h : st_tg σ a = some 1) : st_cell (st_sR σ 63 a v) = va_up (st_cell σ) a (some (.inr (1, (fl_1 σ a).set 23 (va_rf v)))) := by
  funext b
  by_cases hb : b = a
  · subst hb; rw [va_up_self, cell_1 (σ := st_sR σ 63 b v) (by rw [g_tg_sR]; exact h)]; simp [g_tg_sI, g_cl_sI, g_ln_sI, g_I_sI, g_J_sI, g_R_sI, g_eI_sI, g_eJ_sI, g_eR_sI, g_tg_uI, g_cl_uI, g_ln_uI, g_I_uI, g_J_uI, g_R_uI, g_eI_uI, g_eJ_uI, g_eR_uI, g_tg_sJ, g_cl_sJ, g_ln_sJ, g_I_sJ, g_J_sJ, g_R_sJ, g_eI_sJ, g_eJ_sJ, g_eR_sJ, g_tg_uJ, g_cl_uJ, g_ln_uJ, g_I_uJ, g_J_uJ, g_R_uJ, g_eI_uJ, g_eJ_uJ, g_eR_uJ, g_tg_sR, g_cl_sR, g_ln_sR, g_I_sR, g_J_sR, g_R_sR, g_eI_sR, g_eJ_sR, g_eR_sR, g_tg_uR, g_cl_uR, g_ln_uR, g_I_uR, g_J_uR, g_R_uR, g_eI_uR, g_eJ_uR, g_eR_uR, g_tg_new, g_cl_new, g_ln_new, g_I_new, g_J_new, g_R_new, g_eI_new, g_eJ_new, g_eR_new, g_tg_arr, g_cl_arr, g_ln_arr, g_I_arr, g_J_arr, g_R_arr, g_eI_arr, g_eJ_arr, g_eR_arr]
  · rw [va_up_ne _ _ hb]; exact cell_sR_ne σ _ _ _ hb
theorem put_1_24 (σ : ST) (a : Nat) (v : Option Nat) (h : st_tg σ a = some 1) : st_cell (st_sR σ 64 a v) = va_up (st_cell σ) a (some (.inr (1, (fl_1 σ a).set 24 (va_rf v)))) := by
  funext b
  by_cases hb : b = a
  · subst hb; rw [va_up_self, cell_1 (σ := st_sR σ 64 b v) (by rw [g_tg_sR]; exact h)]; simp [g_tg_sI, g_cl_sI, g_ln_sI, g_I_sI, g_J_sI, g_R_sI, g_eI_sI, g_eJ_sI, g_eR_sI, g_tg_uI, g_cl_uI, g_ln_uI, g_I_uI, g_J_uI, g_R_uI, g_eI_uI, g_eJ_uI, g_eR_uI, g_tg_sJ, g_cl_sJ, g_ln_sJ, g_I_sJ, g_J_sJ, g_R_sJ, g_eI_sJ, g_eJ_sJ, g_eR_sJ, g_tg_uJ, g_cl_uJ, g_ln_uJ, g_I_uJ, g_J_uJ, g_R_uJ, g_eI_uJ, g_eJ_uJ, g_eR_uJ, g_tg_sR, g_cl_sR, g_ln_sR, g_I_sR, g_J_sR, g_R_sR, g_eI_sR, g_eJ_sR, g_eR_sR, g_tg_uR, g_cl_uR, g_ln_uR, g_I_uR, g_J_uR, g_R_uR, g_eI_uR, g_eJ_uR, g_eR_uR, g_tg_new, g_cl_new, g_ln_new, g_I_new, g_J_new, g_R_new, g_eI_new, g_eJ_new, g_eR_new, g_tg_arr, g_cl_arr, g_ln_arr, g_I_arr, g_J_arr, g_R_arr, g_eI_arr, g_eJ_arr, g_eR_arr]
  · rw [va_up_ne _ _ hb]; exact cell_sR_ne σ _ _ _ hb
theorem put_1_25 (σ : ST) (a : Nat) (v : Option Nat) (h : st_tg σ a = some 1) : st_cell (st_sR σ 65 a v) = va_up (st_cell σ) a (some (.inr (1, (fl_1 σ a).set 25 (va_rf v)))) := by
  funext b
  by_cases hb : b = a
  · subst hb; rw [va_up_self, cell_1 (σ := st_sR σ 65 b v) (by rw [g_tg_sR]; exact h)]; simp [g_tg_sI, g_cl_sI, g_ln_sI, g_I_sI, g_J_sI, g_R_sI, g_eI_sI, g_eJ_sI, g_eR_sI, g_tg_uI, g_cl_uI, g_ln_uI, g_I_uI, g_J_uI, g_R_uI, g_eI_uI, g_eJ_uI, g_eR_uI, g_tg_sJ, g_cl_sJ, g_ln_sJ, g_I_sJ, g_J_sJ, g_R_sJ, g_eI_sJ, g_eJ_sJ, g_eR_sJ, g_tg_uJ, g_cl_uJ, g_ln_uJ, g_I_uJ, g_J_uJ, g_R_uJ, g_eI_uJ, g_eJ_uJ, g_eR_uJ, g_tg_sR, g_cl_sR, g_ln_sR, g_I_sR, g_J_sR, g_R_sR, g_eI_sR, g_eJ_sR, g_eR_sR, g_tg_uR, g_cl_uR, g_ln_uR, g_I_uR, g_J_uR, g_R_uR, g_eI_uR, g_eJ_uR, g_eR_uR, g_tg_new, g_cl_new, g_ln_new, g_I_new, g_J_new, g_R_new, g_eI_new, g_eJ_new, g_eR_new, g_tg_arr, g_cl_arr, g_ln_arr, g_I_arr, g_J_arr, g_R_arr, g_eI_arr, g_eJ_arr, g_eR_arr]
  · rw [va_up_ne _ _ hb]; exact cell_sR_ne σ _ _ _ hb
theorem put_1_26 (σ : ST) (a : Nat) (v : Option Nat) (h : st_tg σ a = some 1) : st_cell (st_sR σ 66 a v) = va_up (st_cell σ) a (some (.inr (1, (fl_1 σ a).set 26 (va_rf v)))) := by
  funext b
  by_cases hb : b = a
  · subst hb; rw [va_up_self, cell_1 (σ := st_sR σ 66 b v) (by rw [g_tg_sR]; exact h)]; simp [g_tg_sI, g_cl_sI, g_ln_sI, g_I_sI, g_J_sI, g_R_sI, g_eI_sI, g_eJ_sI, g_eR_sI, g_tg_uI, g_cl_uI, g_ln_uI, g_I_uI, g_J_uI, g_R_uI, g_eI_uI, g_eJ_uI, g_eR_uI, g_tg_sJ, g_cl_sJ, g_ln_sJ, g_I_sJ, g_J_sJ, g_R_sJ, g_eI_sJ, g_eJ_sJ, g_eR_sJ, g_tg_uJ, g_cl_uJ, g_ln_uJ, g_I_uJ, g_J_uJ, g_R_uJ, g_eI_uJ, g_eJ_uJ, g_eR_uJ, g_tg_sR, g_cl_sR, g_ln_sR, g_I_sR, g_J_sR, g_R_sR, g_eI_sR, g_eJ_sR, g_eR_sR, g_tg_uR, g_cl_uR, g_ln_uR, g_I_uR, g_J_uR, g_R_uR, g_eI_uR, g_eJ_uR, g_eR_uR, g_tg_new, g_cl_new, g_ln_new, g_I_new, g_J_new, g_R_new, g_eI_new, g_eJ_new, g_eR_new, g_tg_arr, g_cl_arr, g_ln_arr, g_I_arr, g_J_arr, g_R_arr, g_eI_arr, g_eJ_arr, g_eR_arr]
  · rw [va_up_ne _ _ hb]; exact cell_sR_ne σ _ _ _ hb
theorem put_1_27 (σ : ST) (a : Nat) (v : Int32) (h : st_tg σ a = some 1) : st_cell (st_sI σ 67 a v) = va_up (st_cell σ) a (some (.inr (1, (fl_1 σ a).set 27 (.int v)))) := by
  funext b
  by_cases hb : b = a
  · subst hb; rw [va_up_self, cell_1 (σ := st_sI σ 67 b v) (by rw [g_tg_sI]; exact h)]; simp [g_tg_sI, g_cl_sI, g_ln_sI, g_I_sI, g_J_sI, g_R_sI, g_eI_sI, g_eJ_sI, g_eR_sI, g_tg_uI, g_cl_uI, g_ln_uI, g_I_uI, g_J_uI, g_R_uI, g_eI_uI, g_eJ_uI, g_eR_uI, g_tg_sJ, g_cl_sJ, g_ln_sJ, g_I_sJ, g_J_sJ, g_R_sJ, g_eI_sJ, g_eJ_sJ, g_eR_sJ, g_tg_uJ, g_cl_uJ, g_ln_uJ, g_I_uJ, g_J_uJ, g_R_uJ, g_eI_uJ, g_eJ_uJ, g_eR_uJ, g_tg_sR, g_cl_sR, g_ln_sR, g_I_sR, g_J_sR, g_R_sR, g_eI_sR, g_eJ_sR, g_eR_sR, g_tg_uR, g_cl_uR, g_ln_uR, g_I_uR, g_J_uR, g_R_uR, g_eI_uR, g_eJ_uR, g_eR_uR, g_tg_new, g_cl_new, g_ln_new, g_I_new, g_J_new, g_R_new, g_eI_new, g_eJ_new, g_eR_new, g_tg_arr, g_cl_arr, g_ln_arr, g_I_arr, g_J_arr, g_R_arr, g_eI_arr, g_eJ_arr, g_eR_arr]
  · rw [va_up_ne _ _ hb]; exact cell_sI_ne σ _ _ _ hb
theorem put_1_28 (σ : ST) (a : Nat) (v : Option Nat) (h : st_tg σ a = some 1) : st_cell (st_sR σ 68 a v) = va_up (st_cell σ) a (some (.inr (1, (fl_1 σ a).set 28 (va_rf v)))) := by
  funext b
  by_cases hb : b = a
  · subst hb; rw [va_up_self, cell_1 (σ := st_sR σ 68 b v) (by rw [g_tg_sR]; exact h)]; simp [g_tg_sI, g_cl_sI, g_ln_sI, g_I_sI, g_J_sI, g_R_sI, g_eI_sI, g_eJ_sI, g_eR_sI, g_tg_uI, g_cl_uI, g_ln_uI, g_I_uI, g_J_uI, g_R_uI, g_eI_uI, g_eJ_uI, g_eR_uI, g_tg_sJ, g_cl_sJ, g_ln_sJ, g_I_sJ, g_J_sJ, g_R_sJ, g_eI_sJ, g_eJ_sJ, g_eR_sJ, g_tg_uJ, g_cl_uJ, g_ln_uJ, g_I_uJ, g_J_uJ, g_R_uJ, g_eI_uJ, g_eJ_uJ, g_eR_uJ, g_tg_sR, g_cl_sR, g_ln_sR, g_I_sR, g_J_sR, g_R_sR, g_eI_sR, g_eJ_sR, g_eR_sR, g_tg_uR, g_cl_uR, g_ln_uR, g_I_uR, g_J_uR, g_R_uR, g_eI_uR, g_eJ_uR, g_eR_uR, g_tg_new, g_cl_new, g_ln_new, g_I_new, g_J_new, g_R_new, g_eI_new, g_eJ_new, g_eR_new, g_tg_arr, g_cl_arr, g_ln_arr, g_I_arr, g_J_arr, g_R_arr, g_eI_arr, g_eJ_arr, g_eR_arr]
  · rw [va_up_ne _ _ hb]; exact cell_sR_ne σ _ _ _ hb
theorem put_1_29 (σ : ST) (a : Nat) (v : Option Nat) (h : st_tg σ a = some 1) : st_cell (st_sR σ 69 a v) = va_up (st_cell σ) a (some (.inr (1, (fl_1 σ a).set 29 (va_rf v)))) := by
  funext b
  by_cases hb : b = a
  · subst hb; rw [va_up_self, cell_1 (σ := st_sR σ 69 b v) (by rw [g_tg_sR]; exact h)]; simp [g_tg_sI, g_cl_sI, g_ln_sI, g_I_sI, g_J_sI, g_R_sI, g_eI_sI, g_eJ_sI, g_eR_sI, g_tg_uI, g_cl_uI, g_ln_uI, g_I_uI, g_J_uI, g_R_uI, g_eI_uI, g_eJ_uI, g_eR_uI, g_tg_sJ, g_cl_sJ, g_ln_sJ, g_I_sJ, g_J_sJ, g_R_sJ, g_eI_sJ, g_eJ_sJ, g_eR_sJ, g_tg_uJ, g_cl_uJ, g_ln_uJ, g_I_uJ, g_J_uJ, g_R_uJ, g_eI_uJ, g_eJ_uJ, g_eR_uJ, g_tg_sR, g_cl_sR, g_ln_sR, g_I_sR, g_J_sR, g_R_sR, g_eI_sR, g_eJ_sR, g_eR_sR, g_tg_uR, g_cl_uR, g_ln_uR, g_I_uR, g_J_uR, g_R_uR, g_eI_uR, g_eJ_uR, g_eR_uR, g_tg_new, g_cl_new, g_ln_new, g_I_new, g_J_new, g_R_new, g_eI_new, g_eJ_new, g_eR_new, g_tg_arr, g_cl_arr, g_ln_arr, g_I_arr, g_J_arr, g_R_arr, g_eI_arr, g_eJ_arr, g_eR_arr]
  · rw [va_up_ne _ _ hb]; exact cell_sR_ne σ _ _ _ hb
theorem put_1_30 (σ : ST) (a : Nat) (v : Option Nat) (h : st_tg σ a = some 1) : st_cell (st_sR σ 70 a v) = va_up (st_cell σ) a (some (.inr (1, (fl_1 σ a).set 30 (va_rf v)))) := by
  funext b
  by_cases hb : b = a
  · subst hb; rw [va_up_self, cell_1 (σ := st_sR σ 70 b v) (by rw [g_tg_sR]; exact h)]; simp [g_tg_sI, g_cl_sI, g_ln_sI, g_I_sI, g_J_sI, g_R_sI, g_eI_sI, g_eJ_sI, g_eR_sI, g_tg_uI, g_cl_uI, g_ln_uI, g_I_uI, g_J_uI, g_R_uI, g_eI_uI, g_eJ_uI, g_eR_uI, g_tg_sJ, g_cl_sJ, g_ln_sJ, g_I_sJ, g_J_sJ, g_R_sJ, g_eI_sJ, g_eJ_sJ, g_eR_sJ, g_tg_uJ, g_cl_uJ, g_ln_uJ, g_I_uJ, g_J_uJ, g_R_uJ, g_eI_uJ, g_eJ_uJ, g_eR_uJ, g_tg_sR, g_cl_sR, g_ln_sR, g_I_sR, g_J_sR, g_R_sR, g_eI_sR, g_eJ_sR, g_eR_sR, g_tg_uR, g_cl_uR, g_ln_uR, g_I_uR, g_J_uR, g_R_uR, g_eI_uR, g_eJ_uR, g_eR_uR, g_tg_new, g_cl_new, g_ln_new, g_I_new, g_J_new, g_R_new, g_eI_new, g_eJ_new, g_eR_new, g_tg_arr, g_cl_arr, g_ln_arr, g_I_arr, g_J_arr, g_R_arr, g_eI_arr, g_eJ_arr, g_eR_arr]
  · rw [va_up_ne _ _ hb]; exact cell_sR_ne σ _ _ _ hb
theorem put_1_31 (σ : ST) (a : Nat) (v : Option Nat) (h : st_tg σ a = some 1) : st_cell (st_sR σ 71 a v) = va_up (st_cell σ) a (some (.inr (1, (fl_1 σ a).set 31 (va_rf v)))) := by
  funext b
  by_cases hb : b = a
  · subst hb; rw [va_up_self, cell_1 (σ := st_sR σ 71 b v) (by rw [g_tg_sR]; exact h)]; simp [g_tg_sI, g_cl_sI, g_ln_sI, g_I_sI, g_J_sI, g_R_sI, g_eI_sI, g_eJ_sI, g_eR_sI, g_tg_uI, g_cl_uI, g_ln_uI, g_I_uI, g_J_uI, g_R_uI, g_eI_uI, g_eJ_uI, g_eR_uI, g_tg_sJ, g_cl_sJ, g_ln_sJ, g_I_sJ, g_J_sJ, g_R_sJ, g_eI_sJ, g_eJ_sJ, g_eR_sJ, g_tg_uJ, g_cl_uJ, g_ln_uJ, g_I_uJ, g_J_uJ, g_R_uJ, g_eI_uJ, g_eJ_uJ, g_eR_uJ, g_tg_sR, g_cl_sR, g_ln_sR, g_I_sR, g_J_sR, g_R_sR, g_eI_sR, g_eJ_sR, g_eR_sR, g_tg_uR, g_cl_uR, g_ln_uR, g_I_uR, g_J_uR, g_R_uR, g_eI_uR, g_eJ_uR, g_eR_uR, g_tg_new, g_cl_new, g_ln_new, g_I_new, g_J_new, g_R_new, g_eI_new, g_eJ_new, g_eR_new, g_tg_arr, g_cl_arr, g_ln_arr, g_I_arr, g_J_arr, g_R_arr, g_eI_arr, g_eJ_arr, g_eR_arr]
  · rw [va_up_ne _ _ hb]; exact cell_sR_ne σ _ _ _ hb
abbrev df_1 : List Value := [.int 0, va_rf none, va_rf none, va_rf none, va_rf none, va_rf none, va_rf none, va_rf none, va_rf none, va_rf none, va_rf none, va_rf none, va_rf none, va_rf none, va_rf none, va_rf none, va_rf none, va_rf none, va_rf none, va_rf none, .int 0, .int 0, va_rf none, va_rf none, va_rf none, va_rf none, va_rf none, .int 0, va_rf none, va_rf none, va_rf none, va_rf none]
theorem new_1 (σ : ST) (q : Nat) (h : st_tg σ q = none) : st_cell (st_new σ q 1) = va_up (st_cell σ) q (some (.inr (1, df_1))) := by
  funext b
  by_cases hb : b = q
  · subst hb; rw [va_up_self, cell_1 (σ := st_new σ b 1) (by rw [g_tg_new, if_pos rfl])]; simp [g_tg_sI, g_cl_sI, g_ln_sI, g_I_sI, g_J_sI, g_R_sI, g_eI_sI, g_eJ_sI, g_eR_sI, g_tg_uI, g_cl_uI, g_ln_uI, g_I_uI, g_J_uI, g_R_uI, g_eI_uI, g_eJ_uI, g_eR_uI, g_tg_sJ, g_cl_sJ, g_ln_sJ, g_I_sJ, g_J_sJ, g_R_sJ, g_eI_sJ, g_eJ_sJ, g_eR_sJ, g_tg_uJ, g_cl_uJ, g_ln_uJ, g_I_uJ, g_J_uJ, g_R_uJ, g_eI_uJ, g_eJ_uJ, g_eR_uJ, g_tg_sR, g_cl_sR, g_ln_sR, g_I_sR, g_J_sR, g_R_sR, g_eI_sR, g_eJ_sR, g_eR_sR, g_tg_uR, g_cl_uR, g_ln_uR, g_I_uR, g_J_uR, g_R_uR, g_eI_uR, g_eJ_uR, g_eR_uR, g_tg_new, g_cl_new, g_ln_new, g_I_new, g_J_new, g_R_new, g_eI_new, g_eJ_new, g_eR_new, g_tg_arr, g_cl_arr, g_ln_arr, g_I_arr, g_J_arr, g_R_arr, g_eI_arr, g_eJ_arr, g_eR_arr]
  · rw [va_up_ne _ _ hb]; exact cell_new_ne σ _ _ hb
theorem put_2_0 (σ : ST) (a : Nat) (v : Option Nat) (h : st_tg σ a = some 2) : st_cell (st_sR σ 80 a v) = va_up (st_cell σ) a (some (.inr (2, (fl_2 σ a).set 0 (va_rf v)))) := by
  funext b
  by_cases hb : b = a
  · subst hb; rw [va_up_self, cell_2 (σ := st_sR σ 80 b v) (by rw [g_tg_sR]; exact h)]; simp [g_tg_sI, g_cl_sI, g_ln_sI, g_I_sI, g_J_sI, g_R_sI, g_eI_sI, g_eJ_sI, g_eR_sI, g_tg_uI, g_cl_uI, g_ln_uI, g_I_uI, g_J_uI, g_R_uI, g_eI_uI, g_eJ_uI, g_eR_uI, g_tg_sJ, g_cl_sJ, g_ln_sJ, g_I_sJ, g_J_sJ, g_R_sJ, g_eI_sJ, g_eJ_sJ, g_eR_sJ, g_tg_uJ, g_cl_uJ, g_ln_uJ, g_I_uJ, g_J_uJ, g_R_uJ, g_eI_uJ, g_eJ_uJ, g_eR_uJ, g_tg_sR, g_cl_sR, g_ln_sR, g_I_sR, g_J_sR, g_R_sR, g_eI_sR, g_eJ_sR, g_eR_sR, g_tg_uR, g_cl_uR, g_ln_uR, g_I_uR, g_J_uR, g_R_uR, g_eI_uR, g_eJ_uR, g_eR_uR, g_tg_new, g_cl_new, g_ln_new, g_I_new, g_J_new, g_R_new, g_eI_new, g_eJ_new, g_eR_new, g_tg_arr, g_cl_arr, g_ln_arr, g_I_arr, g_J_arr, g_R_arr, g_eI_arr, g_eJ_arr, g_eR_arr]
  · rw [va_up_ne _ _ hb]; exact cell_sR_ne σ _ _ _ hb
theorem put_2_1 (σ : ST) (a : Nat) (v : Int64) (h : st_tg σ a = some 2) : st_cell (st_sJ σ 81 a v) = va_up (st_cell σ) a (some (.inr (2, (fl_2 σ a).set 1 (.long v)))) := by
  funext b
  by_cases hb : b = a
  · subst hb; rw [va_up_self, cell_2 (σ := st_sJ σ 81 b v) (by rw [g_tg_sJ]; exact h)]; simp [g_tg_sI, g_cl_sI, g_ln_sI, g_I_sI, g_J_sI, g_R_sI, g_eI_sI, g_eJ_sI, g_eR_sI, g_tg_uI, g_cl_uI, g_ln_uI, g_I_uI, g_J_uI, g_R_uI, g_eI_uI, g_eJ_uI, g_eR_uI, g_tg_sJ, g_cl_sJ, g_ln_sJ, g_I_sJ, g_J_sJ, g_R_sJ, g_eI_sJ, g_eJ_sJ, g_eR_sJ, g_tg_uJ, g_cl_uJ, g_ln_uJ, g_I_uJ, g_J_uJ, g_R_uJ, g_eI_uJ, g_eJ_uJ, g_eR_uJ, g_tg_sR, g_cl_sR, g_ln_sR, g_I_sR, g_J_sR, g_R_sR, g_eI_sR, g_eJ_sR, g_eR_sR, g_tg_uR, g_cl_uR, g_ln_uR, g_I_uR, g_J_uR, g_R_uR, g_eI_uR, g_eJ_uR, g_eR_uR, g_tg_new, g_cl_new, g_ln_new, g_I_new, g_J_new, g_R_new, g_eI_new, g_eJ_new, g_eR_new, g_tg_arr, g_cl_arr, g_ln_arr, g_I_arr, g_J_arr, g_R_arr, g_eI_arr, g_eJ_arr, g_eR_arr]
  · rw [va_up_ne _ _ hb]; exact cell_sJ_ne σ _ _ _ hb
theorem put_2_2 (σ : ST) (a : Nat) (v : Int32) (h : st_tg σ a = some 2) : st_cell (st_sI σ 82 a v) = va_up (st_cell σ) a (some (.inr (2, (fl_2 σ a).set 2 (.int v)))) := by
  funext b
  by_cases hb : b = a
  · subst hb; rw [va_up_self, cell_2 (σ := st_sI σ 82 b v) (by rw [g_tg_sI]; exact h)]; simp [g_tg_sI, g_cl_sI, g_ln_sI, g_I_sI, g_J_sI, g_R_sI, g_eI_sI, g_eJ_sI, g_eR_sI, g_tg_uI, g_cl_uI, g_ln_uI, g_I_uI, g_J_uI, g_R_uI, g_eI_uI, g_eJ_uI, g_eR_uI, g_tg_sJ, g_cl_sJ, g_ln_sJ, g_I_sJ, g_J_sJ, g_R_sJ, g_eI_sJ, g_eJ_sJ, g_eR_sJ, g_tg_uJ, g_cl_uJ, g_ln_uJ, g_I_uJ, g_J_uJ, g_R_uJ, g_eI_uJ, g_eJ_uJ, g_eR_uJ, g_tg_sR, g_cl_sR, g_ln_sR, g_I_sR, g_J_sR, g_R_sR, g_eI_sR, g_eJ_sR, g_eR_sR, g_tg_uR, g_cl_uR, g_ln_uR, g_I_uR, g_J_uR, g_R_uR, g_eI_uR, g_eJ_uR, g_eR_uR, g_tg_new, g_cl_new, g_ln_new, g_I_new, g_J_new, g_R_new, g_eI_new, g_eJ_new, g_eR_new, g_tg_arr, g_cl_arr, g_ln_arr, g_I_arr, g_J_arr, g_R_arr, g_eI_arr, g_eJ_arr, g_eR_arr]
  · rw [va_up_ne _ _ hb]; exact cell_sI_ne σ _ _ _ hb
abbrev df_2 : List Value := [va_rf none, .long 0, .int 0]
theorem new_2 (σ : ST) (q : Nat) (h : st_tg σ q = none) : st_cell (st_new σ q 2) = va_up (st_cell σ) q (some (.inr (2, df_2))) := by
  funext b
  by_cases hb : b = q
  · subst hb; rw [va_up_self, cell_2 (σ := st_new σ b 2) (by rw [g_tg_new, if_pos rfl])]; simp [g_tg_sI, g_cl_sI, g_ln_sI, g_I_sI, g_J_sI, g_R_sI, g_eI_sI, g_eJ_sI, g_eR_sI, g_tg_uI, g_cl_uI, g_ln_uI, g_I_uI, g_J_uI, g_R_uI, g_eI_uI, g_eJ_uI, g_eR_uI, g_tg_sJ, g_cl_sJ, g_ln_sJ, g_I_sJ, g_J_sJ, g_R_sJ, g_eI_sJ, g_eJ_sJ, g_eR_sJ, g_tg_uJ, g_cl_uJ, g_ln_uJ, g_I_uJ, g_J_uJ, g_R_uJ, g_eI_uJ, g_eJ_uJ, g_eR_uJ, g_tg_sR, g_cl_sR, g_ln_sR, g_I_sR, g_J_sR, g_R_sR, g_eI_sR, g_eJ_sR, g_eR_sR, g_tg_uR, g_cl_uR, g_ln_uR, g_I_uR, g_J_uR, g_R_uR, g_eI_uR, g_eJ_uR, g_eR_uR, g_tg_new, g_cl_new, g_ln_new, g_I_new, g_J_new, g_R_new, g_eI_new, g_eJ_new, g_eR_new, g_tg_arr, g_cl_arr, g_ln_arr, g_I_arr, g_J_arr, g_R_arr, g_eI_arr, g_eJ_arr, g_eR_arr]
  · rw [va_up_ne _ _ hb]; exact cell_new_ne σ _ _ hb
theorem put_3_0 (σ : ST) (a : Nat) (v : Int64) (h : st_tg σ a = some 3) : st_cell (st_sJ σ 120 a v) = va_up (st_cell σ) a (some (.inr (3, (fl_3 σ a).set 0 (.long v)))) := by
  funext b
  by_cases hb : b = a
  · subst hb; rw [va_up_self, cell_3 (σ := st_sJ σ 120 b v) (by rw [g_tg_sJ]; exact h)]; simp [g_tg_sI, g_cl_sI, g_ln_sI, g_I_sI, g_J_sI, g_R_sI, g_eI_sI, g_eJ_sI, g_eR_sI, g_tg_uI, g_cl_uI, g_ln_uI, g_I_uI, g_J_uI, g_R_uI, g_eI_uI, g_eJ_uI, g_eR_uI, g_tg_sJ, g_cl_sJ, g_ln_sJ, g_I_sJ, g_J_sJ, g_R_sJ, g_eI_sJ, g_eJ_sJ, g_eR_sJ, g_tg_uJ, g_cl_uJ, g_ln_uJ, g_I_uJ, g_J_uJ, g_R_uJ, g_eI_uJ, g_eJ_uJ, g_eR_uJ, g_tg_sR, g_cl_sR, g_ln_sR, g_I_sR, g_J_sR, g_R_sR, g_eI_sR, g_eJ_sR, g_eR_sR, g_tg_uR, g_cl_uR, g_ln_uR, g_I_uR, g_J_uR, g_R_uR, g_eI_uR, g_eJ_uR, g_eR_uR, g_tg_new, g_cl_new, g_ln_new, g_I_new, g_J_new, g_R_new, g_eI_new, g_eJ_new, g_eR_new, g_tg_arr, g_cl_arr, g_ln_arr, g_I_arr, g_J_arr, g_R_arr, g_eI_arr, g_eJ_arr, g_eR_arr]
  · rw [va_up_ne _ _ hb]; exact cell_sJ_ne σ _ _ _ hb
abbrev df_3 : List Value := [.long 0]
theorem new_3 (σ : ST) (q : Nat) (h : st_tg σ q = none) : st_cell (st_new σ q 3) = va_up (st_cell σ) q (some (.inr (3, df_3))) := by
  funext b
  by_cases hb : b = q
  · subst hb; rw [va_up_self, cell_3 (σ := st_new σ b 3) (by rw [g_tg_new, if_pos rfl])]; simp [g_tg_sI, g_cl_sI, g_ln_sI, g_I_sI, g_J_sI, g_R_sI, g_eI_sI, g_eJ_sI, g_eR_sI, g_tg_uI, g_cl_uI, g_ln_uI, g_I_uI, g_J_uI, g_R_uI, g_eI_uI, g_eJ_uI, g_eR_uI, g_tg_sJ, g_cl_sJ, g_ln_sJ, g_I_sJ, g_J_sJ, g_R_sJ, g_eI_sJ, g_eJ_sJ, g_eR_sJ, g_tg_uJ, g_cl_uJ, g_ln_uJ, g_I_uJ, g_J_uJ, g_R_uJ, g_eI_uJ, g_eJ_uJ, g_eR_uJ, g_tg_sR, g_cl_sR, g_ln_sR, g_I_sR, g_J_sR, g_R_sR, g_eI_sR, g_eJ_sR, g_eR_sR, g_tg_uR, g_cl_uR, g_ln_uR, g_I_uR, g_J_uR, g_R_uR, g_eI_uR, g_eJ_uR, g_eR_uR, g_tg_new, g_cl_new, g_ln_new, g_I_new, g_J_new, g_R_new, g_eI_new, g_eJ_new, g_eR_new, g_tg_arr, g_cl_arr, g_ln_arr, g_I_arr, g_J_arr, g_R_arr, g_eI_arr, g_eJ_arr, g_eR_arr]
  · rw [va_up_ne _ _ hb]; exact cell_new_ne σ _ _ hb
theorem put_4_0 (σ : ST) (a : Nat) (v : Int32) (h : st_tg σ a = some 4) : st_cell (st_sI σ 160 a v) = va_up (st_cell σ) a (some (.inr (4, (fl_4 σ a).set 0 (.int v)))) := by
  funext b
  by_cases hb : b = a
  · subst hb; rw [va_up_self, cell_4 (σ := st_sI σ 160 b v) (by rw [g_tg_sI]; exact h)]; simp [g_tg_sI, g_cl_sI, g_ln_sI, g_I_sI, g_J_sI, g_R_sI, g_eI_sI, g_eJ_sI, g_eR_sI, g_tg_uI, g_cl_uI, g_ln_uI, g_I_uI, g_J_uI, g_R_uI, g_eI_uI, g_eJ_uI, g_eR_uI, g_tg_sJ, g_cl_sJ, g_ln_sJ, g_I_sJ, g_J_sJ, g_R_sJ, g_eI_sJ, g_eJ_sJ, g_eR_sJ, g_tg_uJ, g_cl_uJ, g_ln_uJ, g_I_uJ, g_J_uJ, g_R_uJ, g_eI_uJ, g_eJ_uJ, g_eR_uJ, g_tg_sR, g_cl_sR, g_ln_sR, g_I_sR, g_J_sR, g_R_sR, g_eI_sR, g_eJ_sR, g_eR_sR, g_tg_uR, g_cl_uR, g_ln_uR, g_I_uR, g_J_uR, g_R_uR, g_eI_uR, g_eJ_uR, g_eR_uR, g_tg_new, g_cl_new, g_ln_new, g_I_new, g_J_new, g_R_new, g_eI_new, g_eJ_new, g_eR_new, g_tg_arr, g_cl_arr, g_ln_arr, g_I_arr, g_J_arr, g_R_arr, g_eI_arr, g_eJ_arr, g_eR_arr]
  · rw [va_up_ne _ _ hb]; exact cell_sI_ne σ _ _ _ hb
theorem put_4_1 (σ : ST) (a : Nat) (v : Int64) (h : st_tg σ a = some 4) : st_cell (st_sJ σ 161 a v) = va_up (st_cell σ) a (some (.inr (4, (fl_4 σ a).set 1 (.long v)))) := by
  funext b
  by_cases hb : b = a
  · subst hb; rw [va_up_self, cell_4 (σ := st_sJ σ 161 b v) (by rw [g_tg_sJ]; exact h)]; simp [g_tg_sI, g_cl_sI, g_ln_sI, g_I_sI, g_J_sI, g_R_sI, g_eI_sI, g_eJ_sI, g_eR_sI, g_tg_uI, g_cl_uI, g_ln_uI, g_I_uI, g_J_uI, g_R_uI, g_eI_uI, g_eJ_uI, g_eR_uI, g_tg_sJ, g_cl_sJ, g_ln_sJ, g_I_sJ, g_J_sJ, g_R_sJ, g_eI_sJ, g_eJ_sJ, g_eR_sJ, g_tg_uJ, g_cl_uJ, g_ln_uJ, g_I_uJ, g_J_uJ, g_R_uJ, g_eI_uJ, g_eJ_uJ, g_eR_uJ, g_tg_sR, g_cl_sR, g_ln_sR, g_I_sR, g_J_sR, g_R_sR, g_eI_sR, g_eJ_sR, g_eR_sR, g_tg_uR, g_cl_uR, g_ln_uR, g_I_uR, g_J_uR, g_R_uR, g_eI_uR, g_eJ_uR, g_eR_uR, g_tg_new, g_cl_new, g_ln_new, g_I_new, g_J_new, g_R_new, g_eI_new, g_eJ_new, g_eR_new, g_tg_arr, g_cl_arr, g_ln_arr, g_I_arr, g_J_arr, g_R_arr, g_eI_arr, g_eJ_arr, g_eR_arr]
  · rw [va_up_ne _ _ hb]; exact cell_sJ_ne σ _ _ _ hb
theorem put_4_2 (σ : ST) (a : Nat) (v : Int64) (h : st_tg σ a = some 4) : st_cell (st_sJ σ 162 a v) = va_up (st_cell σ) a (some (.inr (4, (fl_4 σ a).set 2 (.long v)))) := by
  funext b
  by_cases hb : b = a
  · subst hb; rw [va_up_self, cell_4 (σ := st_sJ σ 162 b v) (by rw [g_tg_sJ]; exact h)]; simp [g_tg_sI, g_cl_sI, g_ln_sI, g_I_sI, g_J_sI, g_R_sI, g_eI_sI, g_eJ_sI, g_eR_sI, g_tg_uI, g_cl_uI, g_ln_uI, g_I_uI, g_J_uI, g_R_uI, g_eI_uI, g_eJ_uI, g_eR_uI, g_tg_sJ, g_cl_sJ, g_ln_sJ, g_I_sJ, g_J_sJ, g_R_sJ, g_eI_sJ, g_eJ_sJ, g_eR_sJ, g_tg_uJ, g_cl_uJ, g_ln_uJ, g_I_uJ, g_J_uJ, g_R_uJ, g_eI_uJ, g_eJ_uJ, g_eR_uJ, g_tg_sR, g_cl_sR, g_ln_sR, g_I_sR, g_J_sR, g_R_sR, g_eI_sR, g_eJ_sR, g_eR_sR, g_tg_uR, g_cl_uR, g_ln_uR, g_I_uR, g_J_uR, g_R_uR, g_eI_uR, g_eJ_uR, g_eR_uR, g_tg_new, g_cl_new, g_ln_new, g_I_new, g_J_new, g_R_new, g_eI_new, g_eJ_new, g_eR_new, g_tg_arr, g_cl_arr, g_ln_arr, g_I_arr, g_J_arr, g_R_arr, g_eI_arr, g_eJ_arr, g_eR_arr]
  · rw [va_up_ne _ _ hb]; exact cell_sJ_ne σ _ _ _ hb
theorem put_4_3 (σ : ST) (a : Nat) (v : Int32) (h : st_tg σ a = some 4) : st_cell (st_sI σ 163 a v) = va_up (st_cell σ) a (some (.inr (4, (fl_4 σ a).set 3 (.int v)))) := by
  funext b
  by_cases hb : b = a
  · subst hb; rw [va_up_self, cell_4 (σ := st_sI σ 163 b v) (by rw [g_tg_sI]; exact h)]; simp [g_tg_sI, g_cl_sI, g_ln_sI, g_I_sI, g_J_sI, g_R_sI, g_eI_sI, g_eJ_sI, g_eR_sI, g_tg_uI, g_cl_uI, g_ln_uI, g_I_uI, g_J_uI, g_R_uI, g_eI_uI, g_eJ_uI, g_eR_uI, g_tg_sJ, g_cl_sJ, g_ln_sJ, g_I_sJ, g_J_sJ, g_R_sJ, g_eI_sJ, g_eJ_sJ, g_eR_sJ, g_tg_uJ, g_cl_uJ, g_ln_uJ, g_I_uJ, g_J_uJ, g_R_uJ, g_eI_uJ, g_eJ_uJ, g_eR_uJ, g_tg_sR, g_cl_sR, g_ln_sR, g_I_sR, g_J_sR, g_R_sR, g_eI_sR, g_eJ_sR, g_eR_sR, g_tg_uR, g_cl_uR, g_ln_uR, g_I_uR, g_J_uR, g_R_uR, g_eI_uR, g_eJ_uR, g_eR_uR, g_tg_new, g_cl_new, g_ln_new, g_I_new, g_J_new, g_R_new, g_eI_new, g_eJ_new, g_eR_new, g_tg_arr, g_cl_arr, g_ln_arr, g_I_arr, g_J_arr, g_R_arr, g_eI_arr, g_eJ_arr, g_eR_arr]
  · rw [va_up_ne _ _ hb]; exact cell_sI_ne σ _ _ _ hb
theorem put_4_4 (σ : ST) (a : Nat) (v : Int32) (h : st_tg σ a = some 4) : st_cell (st_sI σ 164 a v) = va_up (st_cell σ) a (some (.inr (4, (fl_4 σ a).set 4 (.int v)))) := by
  funext b
  by_cases hb : b = a
  · subst hb; rw [va_up_self, cell_4 (σ := st_sI σ 164 b v) (by rw [g_tg_sI]; exact h)]; simp [g_tg_sI, g_cl_sI, g_ln_sI, g_I_sI, g_J_sI, g_R_sI, g_eI_sI, g_eJ_sI, g_eR_sI, g_tg_uI, g_cl_uI, g_ln_uI, g_I_uI, g_J_uI, g_R_uI, g_eI_uI, g_eJ_uI, g_eR_uI, g_tg_sJ, g_cl_sJ, g_ln_sJ, g_I_sJ, g_J_sJ, g_R_sJ, g_eI_sJ, g_eJ_sJ, g_eR_sJ, g_tg_uJ, g_cl_uJ, g_ln_uJ, g_I_uJ, g_J_uJ, g_R_uJ, g_eI_uJ, g_eJ_uJ, g_eR_uJ, g_tg_sR, g_cl_sR, g_ln_sR, g_I_sR, g_J_sR, g_R_sR, g_eI_sR, g_eJ_sR, g_eR_sR, g_tg_uR, g_cl_uR, g_ln_uR, g_I_uR, g_J_uR, g_R_uR, g_eI_uR, g_eJ_uR, g_eR_uR, g_tg_new, g_cl_new, g_ln_new, g_I_new, g_J_new, g_R_new, g_eI_new, g_eJ_new, g_eR_new, g_tg_arr, g_cl_arr, g_ln_arr, g_I_arr, g_J_arr, g_R_arr, g_eI_arr, g_eJ_arr, g_eR_arr]
  · rw [va_up_ne _ _ hb]; exact cell_sI_ne σ _ _ _ hb
theorem put_4_5 (σ : ST) (a : Nat) (v : Int32) (h : st_tg σ a = some 4) : st_cell (st_sI σ 165 a v) = va_up (st_cell σ) a (some (.inr (4, (fl_4 σ a).set 5 (.int v)))) := by
  funext b
  by_cases hb : b = a
  · subst hb; rw [va_up_self, cell_4 (σ := st_sI σ 165 b v) (by rw [g_tg_sI]; exact h)]; simp [g_tg_sI, g_cl_sI, g_ln_sI, g_I_sI, g_J_sI, g_R_sI, g_eI_sI, g_eJ_sI, g_eR_sI, g_tg_uI, g_cl_uI, g_ln_uI, g_I_uI, g_J_uI, g_R_uI, g_eI_uI, g_eJ_uI, g_eR_uI, g_tg_sJ, g_cl_sJ, g_ln_sJ, g_I_sJ, g_J_sJ, g_R_sJ, g_eI_sJ, g_eJ_sJ, g_eR_sJ, g_tg_uJ, g_cl_uJ, g_ln_uJ, g_I_uJ, g_J_uJ, g_R_uJ, g_eI_uJ, g_eJ_uJ, g_eR_uJ, g_tg_sR, g_cl_sR, g_ln_sR, g_I_sR, g_J_sR, g_R_sR, g_eI_sR, g_eJ_sR, g_eR_sR, g_tg_uR, g_cl_uR, g_ln_uR, g_I_uR, g_J_uR, g_R_uR, g_eI_uR, g_eJ_uR, g_eR_uR, g_tg_new, g_cl_new, g_ln_new, g_I_new, g_J_new, g_R_new, g_eI_new, g_eJ_new, g_eR_new, g_tg_arr, g_cl_arr, g_ln_arr, g_I_arr, g_J_arr, g_R_arr, g_eI_arr, g_eJ_arr, g_eR_arr]
  · rw [va_up_ne _ _ hb]; exact cell_sI_ne σ _ _ _ hb
theorem put_4_6 (σ : ST) (a : Nat) (v : Int64) (h : st_tg σ a = some 4) : st_cell (st_sJ σ 166 a v) = va_up (st_cell σ) a (some (.inr (4, (fl_4 σ a).set 6 (.long v)))) := by
  funext b
  by_cases hb : b = a
  · subst hb; rw [va_up_self, cell_4 (σ := st_sJ σ 166 b v) (by rw [g_tg_sJ]; exact h)]; simp [g_tg_sI, g_cl_sI, g_ln_sI, g_I_sI, g_J_sI, g_R_sI, g_eI_sI, g_eJ_sI, g_eR_sI, g_tg_uI, g_cl_uI, g_ln_uI, g_I_uI, g_J_uI, g_R_uI, g_eI_uI, g_eJ_uI, g_eR_uI, g_tg_sJ, g_cl_sJ, g_ln_sJ, g_I_sJ, g_J_sJ, g_R_sJ, g_eI_sJ, g_eJ_sJ, g_eR_sJ, g_tg_uJ, g_cl_uJ, g_ln_uJ, g_I_uJ, g_J_uJ, g_R_uJ, g_eI_uJ, g_eJ_uJ, g_eR_uJ, g_tg_sR, g_cl_sR, g_ln_sR, g_I_sR, g_J_sR, g_R_sR, g_eI_sR, g_eJ_sR, g_eR_sR, g_tg_uR, g_cl_uR, g_ln_uR, g_I_uR, g_J_uR, g_R_uR, g_eI_uR, g_eJ_uR, g_eR_uR, g_tg_new, g_cl_new, g_ln_new, g_I_new, g_J_new, g_R_new, g_eI_new, g_eJ_new, g_eR_new, g_tg_arr, g_cl_arr, g_ln_arr, g_I_arr, g_J_arr, g_R_arr, g_eI_arr, g_eJ_arr, g_eR_arr]
  · rw [va_up_ne _ _ hb]; exact cell_sJ_ne σ _ _ _ hb
theorem put_4_7 (σ : ST) (a : Nat) (v : Int64) (h : st_tg σ a = some 4) : st_cell (st_sJ σ 167 a v) = va_up (st_cell σ) a (some (.inr (4, (fl_4 σ a).set 7 (.long v)))) := by
  funext b
  by_cases hb : b = a
  · subst hb; rw [va_up_self, cell_4 (σ := st_sJ σ 167 b v) (by rw [g_tg_sJ]; exact h)]; simp [g_tg_sI, g_cl_sI, g_ln_sI, g_I_sI, g_J_sI, g_R_sI, g_eI_sI, g_eJ_sI, g_eR_sI, g_tg_uI, g_cl_uI, g_ln_uI, g_I_uI, g_J_uI, g_R_uI, g_eI_uI, g_eJ_uI, g_eR_uI, g_tg_sJ, g_cl_sJ, g_ln_sJ, g_I_sJ, g_J_sJ, g_R_sJ, g_eI_sJ, g_eJ_sJ, g_eR_sJ, g_tg_uJ, g_cl_uJ, g_ln_uJ, g_I_uJ, g_J_uJ, g_R_uJ, g_eI_uJ, g_eJ_uJ, g_eR_uJ, g_tg_sR, g_cl_sR, g_ln_sR, g_I_sR, g_J_sR, g_R_sR, g_eI_sR, g_eJ_sR, g_eR_sR, g_tg_uR, g_cl_uR, g_ln_uR, g_I_uR, g_J_uR, g_R_uR, g_eI_uR, g_eJ_uR, g_eR_uR, g_tg_new, g_cl_new, g_ln_new, g_I_new, g_J_new, g_R_new, g_eI_new, g_eJ_new, g_eR_new, g_tg_arr, g_cl_arr, g_ln_arr, g_I_arr, g_J_arr, g_R_arr, g_eI_arr, g_eJ_arr, g_eR_arr]
  · rw [va_up_ne _ _ hb]; exact cell_sJ_ne σ _ _ _ hb
theorem put_4_8 (σ : ST) (a : Nat) (v : Option Nat) (h : st_tg σ a = some 4) : st_cell (st_sR σ 168 a v) = va_up (st_cell σ) a (some (.inr (4, (fl_4 σ a).set 8 (va_rf v)))) := by
  funext b
  by_cases hb : b = a
  · subst hb; rw [va_up_self, cell_4 (σ := st_sR σ 168 b v) (by rw [g_tg_sR]; exact h)]; simp [g_tg_sI, g_cl_sI, g_ln_sI, g_I_sI, g_J_sI, g_R_sI, g_eI_sI, g_eJ_sI, g_eR_sI, g_tg_uI, g_cl_uI, g_ln_uI, g_I_uI, g_J_uI, g_R_uI, g_eI_uI, g_eJ_uI, g_eR_uI, g_tg_sJ, g_cl_sJ, g_ln_sJ, g_I_sJ, g_J_sJ, g_R_sJ, g_eI_sJ, g_eJ_sJ, g_eR_sJ, g_tg_uJ, g_cl_uJ, g_ln_uJ, g_I_uJ, g_J_uJ, g_R_uJ, g_eI_uJ, g_eJ_uJ, g_eR_uJ, g_tg_sR, g_cl_sR, g_ln_sR, g_I_sR, g_J_sR, g_R_sR, g_eI_sR, g_eJ_sR, g_eR_sR, g_tg_uR, g_cl_uR, g_ln_uR, g_I_uR, g_J_uR, g_R_uR, g_eI_uR, g_eJ_uR, g_eR_uR, g_tg_new, g_cl_new, g_ln_new, g_I_new, g_J_new, g_R_new, g_eI_new, g_eJ_new, g_eR_new, g_tg_arr, g_cl_arr, g_ln_arr, g_I_arr, g_J_arr, g_R_arr, g_eI_arr, g_eJ_arr, g_eR_arr]
  · rw [va_up_ne _ _ hb]; exact cell_sR_ne σ _ _ _ hb
abbrev df_4 : List Value := [.int 0, .long 0, .long 0, .int 0, .int 0, .int 0, .long 0, .long 0, va_rf none]
theorem new_4 (σ : ST) (q : Nat) (h : st_tg σ q = none) : st_cell (st_new σ q 4) = va_up (st_cell σ) q (some (.inr (4, df_4))) := by
  funext b
  by_cases hb : b = q
  · subst hb; rw [va_up_self, cell_4 (σ := st_new σ b 4) (by rw [g_tg_new, if_pos rfl])]; simp [g_tg_sI, g_cl_sI, g_ln_sI, g_I_sI, g_J_sI, g_R_sI, g_eI_sI, g_eJ_sI, g_eR_sI, g_tg_uI, g_cl_uI, g_ln_uI, g_I_uI, g_J_uI, g_R_uI, g_eI_uI, g_eJ_uI, g_eR_uI, g_tg_sJ, g_cl_sJ, g_ln_sJ, g_I_sJ, g_J_sJ, g_R_sJ, g_eI_sJ, g_eJ_sJ, g_eR_sJ, g_tg_uJ, g_cl_uJ, g_ln_uJ, g_I_uJ, g_J_uJ, g_R_uJ, g_eI_uJ, g_eJ_uJ, g_eR_uJ, g_tg_sR, g_cl_sR, g_ln_sR, g_I_sR, g_J_sR, g_R_sR, g_eI_sR, g_eJ_sR, g_eR_sR, g_tg_uR, g_cl_uR, g_ln_uR, g_I_uR, g_J_uR, g_R_uR, g_eI_uR, g_eJ_uR, g_eR_uR, g_tg_new, g_cl_new, g_ln_new, g_I_new, g_J_new, g_R_new, g_eI_new, g_eJ_new, g_eR_new, g_tg_arr, g_cl_arr, g_ln_arr, g_I_arr, g_J_arr, g_R_arr, g_eI_arr, g_eJ_arr, g_eR_arr]
  · rw [va_up_ne _ _ hb]; exact cell_new_ne σ _ _ hb
theorem put_5_0 (σ : ST) (a : Nat) (v : Int32) (h : st_tg σ a = some 5) : st_cell (st_sI σ 200 a v) = va_up (st_cell σ) a (some (.inr (5, (fl_5 σ a).set 0 (.int v)))) := by
  funext b
  by_cases hb : b = a
  · subst hb; rw [va_up_self, cell_5 (σ := st_sI σ 200 b v) (by rw [g_tg_sI]; exact h)]; simp [g_tg_sI, g_cl_sI, g_ln_sI, g_I_sI, g_J_sI, g_R_sI, g_eI_sI, g_eJ_sI, g_eR_sI, g_tg_uI, g_cl_uI, g_ln_uI, g_I_uI, g_J_uI, g_R_uI, g_eI_uI, g_eJ_uI, g_eR_uI, g_tg_sJ, g_cl_sJ, g_ln_sJ, g_I_sJ, g_J_sJ, g_R_sJ, g_eI_sJ, g_eJ_sJ, g_eR_sJ, g_tg_uJ, g_cl_uJ, g_ln_uJ, g_I_uJ, g_J_uJ, g_R_uJ, g_eI_uJ, g_eJ_uJ, g_eR_uJ, g_tg_sR, g_cl_sR, g_ln_sR, g_I_sR, g_J_sR, g_R_sR, g_eI_sR, g_eJ_sR, g_eR_sR, g_tg_uR, g_cl_uR, g_ln_uR, g_I_uR, g_J_uR, g_R_uR, g_eI_uR, g_eJ_uR, g_eR_uR, g_tg_new, g_cl_new, g_ln_new, g_I_new, g_J_new, g_R_new, g_eI_new, g_eJ_new, g_eR_new, g_tg_arr, g_cl_arr, g_ln_arr, g_I_arr, g_J_arr, g_R_arr, g_eI_arr, g_eJ_arr, g_eR_arr]
  · rw [va_up_ne _ _ hb]; exact cell_sI_ne σ _ _ _ hb
theorem put_5_1 (σ : ST) (a : Nat) (v : Option Nat) (h : st_tg σ a = some 5) : st_cell (st_sR σ 201 a v) = va_up (st_cell σ) a (some (.inr (5, (fl_5 σ a).set 1 (va_rf v)))) := by
  funext b
  by_cases hb : b = a
  · subst hb; rw [va_up_self, cell_5 (σ := st_sR σ 201 b v) (by rw [g_tg_sR]; exact h)]; simp [g_tg_sI, g_cl_sI, g_ln_sI, g_I_sI, g_J_sI, g_R_sI, g_eI_sI, g_eJ_sI, g_eR_sI, g_tg_uI, g_cl_uI, g_ln_uI, g_I_uI, g_J_uI, g_R_uI, g_eI_uI, g_eJ_uI, g_eR_uI, g_tg_sJ, g_cl_sJ, g_ln_sJ, g_I_sJ, g_J_sJ, g_R_sJ, g_eI_sJ, g_eJ_sJ, g_eR_sJ, g_tg_uJ, g_cl_uJ, g_ln_uJ, g_I_uJ, g_J_uJ, g_R_uJ, g_eI_uJ, g_eJ_uJ, g_eR_uJ, g_tg_sR, g_cl_sR, g_ln_sR, g_I_sR, g_J_sR, g_R_sR, g_eI_sR, g_eJ_sR, g_eR_sR, g_tg_uR, g_cl_uR, g_ln_uR, g_I_uR, g_J_uR, g_R_uR, g_eI_uR, g_eJ_uR, g_eR_uR, g_tg_new, g_cl_new, g_ln_new, g_I_new, g_J_new, g_R_new, g_eI_new, g_eJ_new, g_eR_new, g_tg_arr, g_cl_arr, g_ln_arr, g_I_arr, g_J_arr, g_R_arr, g_eI_arr, g_eJ_arr, g_eR_arr]
  · rw [va_up_ne _ _ hb]; exact cell_sR_ne σ _ _ _ hb
theorem put_5_2 (σ : ST) (a : Nat) (v : Int64) (h : st_tg σ a = some 5) : st_cell (st_sJ σ 202 a v) = va_up (st_cell σ) a (some (.inr (5, (fl_5 σ a).set 2 (.long v)))) := by
  funext b
  by_cases hb : b = a
  · subst hb; rw [va_up_self, cell_5 (σ := st_sJ σ 202 b v) (by rw [g_tg_sJ]; exact h)]; simp [g_tg_sI, g_cl_sI, g_ln_sI, g_I_sI, g_J_sI, g_R_sI, g_eI_sI, g_eJ_sI, g_eR_sI, g_tg_uI, g_cl_uI, g_ln_uI, g_I_uI, g_J_uI, g_R_uI, g_eI_uI, g_eJ_uI, g_eR_uI, g_tg_sJ, g_cl_sJ, g_ln_sJ, g_I_sJ, g_J_sJ, g_R_sJ, g_eI_sJ, g_eJ_sJ, g_eR_sJ, g_tg_uJ, g_cl_uJ, g_ln_uJ, g_I_uJ, g_J_uJ, g_R_uJ, g_eI_uJ, g_eJ_uJ, g_eR_uJ, g_tg_sR, g_cl_sR, g_ln_sR, g_I_sR, g_J_sR, g_R_sR, g_eI_sR, g_eJ_sR, g_eR_sR, g_tg_uR, g_cl_uR, g_ln_uR, g_I_uR, g_J_uR, g_R_uR, g_eI_uR, g_eJ_uR, g_eR_uR, g_tg_new, g_cl_new, g_ln_new, g_I_new, g_J_new, g_R_new, g_eI_new, g_eJ_new, g_eR_new, g_tg_arr, g_cl_arr, g_ln_arr, g_I_arr, g_J_arr, g_R_arr, g_eI_arr, g_eJ_arr, g_eR_arr]
  · rw [va_up_ne _ _ hb]; exact cell_sJ_ne σ _ _ _ hb
theorem put_5_3 (σ : ST) (a : Nat) (v : Int64) (h : st_tg σ a = some 5) : st_cell (st_sJ σ 203 a v) = va_up (st_cell σ) a (some (.inr (5, (fl_5 σ a).set 3 (.long v)))) := by
  funext b
  by_cases hb : b = a
  · subst hb; rw [va_up_self, cell_5 (σ := st_sJ σ 203 b v) (by rw [g_tg_sJ]; exact h)]; simp [g_tg_sI, g_cl_sI, g_ln_sI, g_I_sI, g_J_sI, g_R_sI, g_eI_sI, g_eJ_sI, g_eR_sI, g_tg_uI, g_cl_uI, g_ln_uI, g_I_uI, g_J_uI, g_R_uI, g_eI_uI, g_eJ_uI, g_eR_uI, g_tg_sJ, g_cl_sJ, g_ln_sJ, g_I_sJ, g_J_sJ, g_R_sJ, g_eI_sJ, g_eJ_sJ, g_eR_sJ, g_tg_uJ, g_cl_uJ, g_ln_uJ, g_I_uJ, g_J_uJ, g_R_uJ, g_eI_uJ, g_eJ_uJ, g_eR_uJ, g_tg_sR, g_cl_sR, g_ln_sR, g_I_sR, g_J_sR, g_R_sR, g_eI_sR, g_eJ_sR, g_eR_sR, g_tg_uR, g_cl_uR, g_ln_uR, g_I_uR, g_J_uR, g_R_uR, g_eI_uR, g_eJ_uR, g_eR_uR, g_tg_new, g_cl_new, g_ln_new, g_I_new, g_J_new, g_R_new, g_eI_new, g_eJ_new, g_eR_new, g_tg_arr, g_cl_arr, g_ln_arr, g_I_arr, g_J_arr, g_R_arr, g_eI_arr, g_eJ_arr, g_eR_arr]
  · rw [va_up_ne _ _ hb]; exact cell_sJ_ne σ _ _ _ hb
theorem put_5_4 (σ : ST) (a : Nat) (v : Option Nat) (h : st_tg σ a = some 5) : st_cell (st_sR σ 204 a v) = va_up (st_cell σ) a (some (.inr (5, (fl_5 σ a).set 4 (va_rf v)))) := by
  funext b
  by_cases hb : b = a
  · subst hb; rw [va_up_self, cell_5 (σ := st_sR σ 204 b v) (by rw [g_tg_sR]; exact h)]; simp [g_tg_sI, g_cl_sI, g_ln_sI, g_I_sI, g_J_sI, g_R_sI, g_eI_sI, g_eJ_sI, g_eR_sI, g_tg_uI, g_cl_uI, g_ln_uI, g_I_uI, g_J_uI, g_R_uI, g_eI_uI, g_eJ_uI, g_eR_uI, g_tg_sJ, g_cl_sJ, g_ln_sJ, g_I_sJ, g_J_sJ, g_R_sJ, g_eI_sJ, g_eJ_sJ, g_eR_sJ, g_tg_uJ, g_cl_uJ, g_ln_uJ, g_I_uJ, g_J_uJ, g_R_uJ, g_eI_uJ, g_eJ_uJ, g_eR_uJ, g_tg_sR, g_cl_sR, g_ln_sR, g_I_sR, g_J_sR, g_R_sR, g_eI_sR, g_eJ_sR, g_eR_sR, g_tg_uR, g_cl_uR, g_ln_uR, g_I_uR, g_J_uR, g_R_uR, g_eI_uR, g_eJ_uR, g_eR_uR, g_tg_new, g_cl_new, g_ln_new, g_I_new, g_J_new, g_R_new, g_eI_new, g_eJ_new, g_eR_new, g_tg_arr, g_cl_arr, g_ln_arr, g_I_arr, g_J_arr, g_R_arr, g_eI_arr, g_eJ_arr, g_eR_arr]
  · rw [va_up_ne _ _ hb]; exact cell_sR_ne σ _ _ _ hb
theorem put_5_5 (σ : ST) (a : Nat) (v : Int32) (h : st_tg σ a = some 5) : st_cell (st_sI σ 205 a v) = va_up (st_cell σ) a (some (.inr (5, (fl_5 σ a).set 5 (.int v)))) := by
  funext b
  by_cases hb : b = a
  · subst hb; rw [va_up_self, cell_5 (σ := st_sI σ 205 b v) (by rw [g_tg_sI]; exact h)]; simp [g_tg_sI, g_cl_sI, g_ln_sI, g_I_sI, g_J_sI, g_R_sI, g_eI_sI, g_eJ_sI, g_eR_sI, g_tg_uI, g_cl_uI, g_ln_uI, g_I_uI, g_J_uI, g_R_uI, g_eI_uI, g_eJ_uI, g_eR_uI, g_tg_sJ, g_cl_sJ, g_ln_sJ, g_I_sJ, g_J_sJ, g_R_sJ, g_eI_sJ, g_eJ_sJ, g_eR_sJ, g_tg_uJ, g_cl_uJ, g_ln_uJ, g_I_uJ, g_J_uJ, g_R_uJ, g_eI_uJ, g_eJ_uJ, g_eR_uJ, g_tg_sR, g_cl_sR, g_ln_sR, g_I_sR, g_J_sR, g_R_sR, g_eI_sR, g_eJ_sR, g_eR_sR, g_tg_uR, g_cl_uR, g_ln_uR, g_I_uR, g_J_uR, g_R_uR, g_eI_uR, g_eJ_uR, g_eR_uR, g_tg_new, g_cl_new, g_ln_new, g_I_new, g_J_new, g_R_new, g_eI_new, g_eJ_new, g_eR_new, g_tg_arr, g_cl_arr, g_ln_arr, g_I_arr, g_J_arr, g_R_arr, g_eI_arr, g_eJ_arr, g_eR_arr]
  · rw [va_up_ne _ _ hb]; exact cell_sI_ne σ _ _ _ hb
theorem put_5_6 (σ : ST) (a : Nat) (v : Int32) (h : st_tg σ a = some 5) : st_cell (st_sI σ 206 a v) = va_up (st_cell σ) a (some (.inr (5, (fl_5 σ a).set 6 (.int v)))) := by
  funext b
  by_cases hb : b = a
  · subst hb; rw [va_up_self, cell_5 (σ := st_sI σ 206 b v) (by rw [g_tg_sI]; exact h)]; simp [g_tg_sI, g_cl_sI, g_ln_sI, g_I_sI, g_J_sI, g_R_sI, g_eI_sI, g_eJ_sI, g_eR_sI, g_tg_uI, g_cl_uI, g_ln_uI, g_I_uI, g_J_uI, g_R_uI, g_eI_uI, g_eJ_uI, g_eR_uI, g_tg_sJ, g_cl_sJ, g_ln_sJ, g_I_sJ, g_J_sJ, g_R_sJ, g_eI_sJ, g_eJ_sJ, g_eR_sJ, g_tg_uJ, g_cl_uJ, g_ln_uJ, g_I_uJ, g_J_uJ, g_R_uJ, g_eI_uJ, g_eJ_uJ, g_eR_uJ, g_tg_sR, g_cl_sR, g_ln_sR, g_I_sR, g_J_sR, g_R_sR, g_eI_sR, g_eJ_sR, g_eR_sR, g_tg_uR, g_cl_uR, g_ln_uR, g_I_uR, g_J_uR, g_R_uR, g_eI_uR, g_eJ_uR, g_eR_uR, g_tg_new, g_cl_new, g_ln_new, g_I_new, g_J_new, g_R_new, g_eI_new, g_eJ_new, g_eR_new, g_tg_arr, g_cl_arr, g_ln_arr, g_I_arr, g_J_arr, g_R_arr, g_eI_arr, g_eJ_arr, g_eR_arr]
  · rw [va_up_ne _ _ hb]; exact cell_sI_ne σ _ _ _ hb
theorem put_5_7 (σ : ST) (a : Nat) (v : Int64) (h : st_tg σ a = some 5) : st_cell (st_sJ σ 207 a v) = va_up (st_cell σ) a (some (.inr (5, (fl_5 σ a).set 7 (.long v)))) := by
  funext b
  by_cases hb : b = a
  · subst hb; rw [va_up_self, cell_5 (σ := st_sJ σ 207 b v) (by rw [g_tg_sJ]; exact h)]; simp [g_tg_sI, g_cl_sI, g_ln_sI, g_I_sI, g_J_sI, g_R_sI, g_eI_sI, g_eJ_sI, g_eR_sI, g_tg_uI, g_cl_uI, g_ln_uI, g_I_uI, g_J_uI, g_R_uI, g_eI_uI, g_eJ_uI, g_eR_uI, g_tg_sJ, g_cl_sJ, g_ln_sJ, g_I_sJ, g_J_sJ, g_R_sJ, g_eI_sJ, g_eJ_sJ, g_eR_sJ, g_tg_uJ, g_cl_uJ, g_ln_uJ, g_I_uJ, g_J_uJ, g_R_uJ, g_eI_uJ, g_eJ_uJ, g_eR_uJ, g_tg_sR, g_cl_sR, g_ln_sR, g_I_sR, g_J_sR, g_R_sR, g_eI_sR, g_eJ_sR, g_eR_sR, g_tg_uR, g_cl_uR, g_ln_uR, g_I_uR, g_J_uR, g_R_uR, g_eI_uR, g_eJ_uR, g_eR_uR, g_tg_new, g_cl_new, g_ln_new, g_I_new, g_J_new, g_R_new, g_eI_new, g_eJ_new, g_eR_new, g_tg_arr, g_cl_arr, g_ln_arr, g_I_arr, g_J_arr, g_R_arr, g_eI_arr, g_eJ_arr, g_eR_arr]
  · rw [va_up_ne _ _ hb]; exact cell_sJ_ne σ _ _ _ hb
theorem put_5_8 (σ : ST) (a : Nat) (v : Option Nat) (h : st_tg σ a = some 5) : st_cell (st_sR σ 208 a v) = va_up (st_cell σ) a (some (.inr (5, (fl_5 σ a).set 8 (va_rf v)))) := by
  funext b
  by_cases hb : b = a
  · subst hb; rw [va_up_self, cell_5 (σ := st_sR σ 208 b v) (by rw [g_tg_sR]; exact h)]; simp [g_tg_sI, g_cl_sI, g_ln_sI, g_I_sI, g_J_sI, g_R_sI, g_eI_sI, g_eJ_sI, g_eR_sI, g_tg_uI, g_cl_uI, g_ln_uI, g_I_uI, g_J_uI, g_R_uI, g_eI_uI, g_eJ_uI, g_eR_uI, g_tg_sJ, g_cl_sJ, g_ln_sJ, g_I_sJ, g_J_sJ, g_R_sJ, g_eI_sJ, g_eJ_sJ, g_eR_sJ, g_tg_uJ, g_cl_uJ, g_ln_uJ, g_I_uJ, g_J_uJ, g_R_uJ, g_eI_uJ, g_eJ_uJ, g_eR_uJ, g_tg_sR, g_cl_sR, g_ln_sR, g_I_sR, g_J_sR, g_R_sR, g_eI_sR, g_eJ_sR, g_eR_sR, g_tg_uR, g_cl_uR, g_ln_uR, g_I_uR, g_J_uR, g_R_uR, g_eI_uR, g_eJ_uR, g_eR_uR, g_tg_new, g_cl_new, g_ln_new, g_I_new, g_J_new, g_R_new, g_eI_new, g_eJ_new, g_eR_new, g_tg_arr, g_cl_arr, g_ln_arr, g_I_arr, g_J_arr, g_R_arr, g_eI_arr, g_eJ_arr, g_eR_arr]
  · rw [va_up_ne _ _ hb]; exact cell_sR_ne σ _ _ _ hb
theorem put_5_9 (σ : ST) (a : Nat) (v : Option Nat) (h : st_tg σ a = some 5) : st_cell (st_sR σ 209 a v) = va_up (st_cell σ) a (some (.inr (5, (fl_5 σ a).set 9 (va_rf v)))) := by
  funext b
  by_cases hb : b = a
  · subst hb; rw [va_up_self, cell_5 (σ := st_sR σ 209 b v) (by rw [g_tg_sR]; exact h)]; simp [g_tg_sI, g_cl_sI, g_ln_sI, g_I_sI, g_J_sI, g_R_sI, g_eI_sI, g_eJ_sI, g_eR_sI, g_tg_uI, g_cl_uI, g_ln_uI, g_I_uI, g_J_uI, g_R_uI, g_eI_uI, g_eJ_uI, g_eR_uI, g_tg_sJ, g_cl_sJ, g_ln_sJ, g_I_sJ, g_J_sJ, g_R_sJ, g_eI_sJ, g_eJ_sJ, g_eR_sJ, g_tg_uJ, g_cl_uJ, g_ln_uJ, g_I_uJ, g_J_uJ, g_R_uJ, g_eI_uJ, g_eJ_uJ, g_eR_uJ, g_tg_sR, g_cl_sR, g_ln_sR, g_I_sR, g_J_sR, g_R_sR, g_eI_sR, g_eJ_sR, g_eR_sR, g_tg_uR, g_cl_uR, g_ln_uR, g_I_uR, g_J_uR, g_R_uR, g_eI_uR, g_eJ_uR, g_eR_uR, g_tg_new, g_cl_new, g_ln_new, g_I_new, g_J_new, g_R_new, g_eI_new, g_eJ_new, g_eR_new, g_tg_arr, g_cl_arr, g_ln_arr, g_I_arr, g_J_arr, g_R_arr, g_eI_arr, g_eJ_arr, g_eR_arr]
  · rw [va_up_ne _ _ hb]; exact cell_sR_ne σ _ _ _ hb
theorem put_5_10 (σ : ST) (a : Nat) (v : Option Nat) (h : st_tg σ a = some 5) : st_cell (st_sR σ 210 a v) = va_up (st_cell σ) a (some (.inr (5, (fl_5 σ a).set 10 (va_rf v)))) := by
  funext b
  by_cases hb : b = a
  · subst hb; rw [va_up_self, cell_5 (σ := st_sR σ 210 b v) (by rw [g_tg_sR]; exact h)]; simp [g_tg_sI, g_cl_sI, g_ln_sI, g_I_sI, g_J_sI, g_R_sI, g_eI_sI, g_eJ_sI, g_eR_sI, g_tg_uI, g_cl_uI, g_ln_uI, g_I_uI, g_J_uI, g_R_uI, g_eI_uI, g_eJ_uI, g_eR_uI, g_tg_sJ, g_cl_sJ, g_ln_sJ, g_I_sJ, g_J_sJ, g_R_sJ, g_eI_sJ, g_eJ_sJ, g_eR_sJ, g_tg_uJ, g_cl_uJ, g_ln_uJ, g_I_uJ, g_J_uJ, g_R_uJ, g_eI_uJ, g_eJ_uJ, g_eR_uJ, g_tg_sR, g_cl_sR, g_ln_sR, g_I_sR, g_J_sR, g_R_sR, g_eI_sR, g_eJ_sR, g_eR_sR, g_tg_uR, g_cl_uR, g_ln_uR, g_I_uR, g_J_uR, g_R_uR, g_eI_uR, g_eJ_uR, g_eR_uR, g_tg_new, g_cl_new, g_ln_new, g_I_new, g_J_new, g_R_new, g_eI_new, g_eJ_new, g_eR_new, g_tg_arr, g_cl_arr, g_ln_arr, g_I_arr, g_J_arr, g_R_arr, g_eI_arr, g_eJ_arr, g_eR_arr]
  · rw [va_up_ne _ _ hb]; exact cell_sR_ne σ _ _ _ hb
abbrev df_5 : List Value := [.int 0, va_rf none, .long 0, .long 0, va_rf none, .int 0, .int 0, .long 0, va_rf none, va_rf none, va_rf none]
theorem new_5 (σ : ST) (q : Nat) (h : st_tg σ q = none) : st_cell (st_new σ q 5) = va_up (st_cell σ) q (some (.inr (5, df_5))) := by
  funext b
  by_cases hb : b = q
  · subst hb; rw [va_up_self, cell_5 (σ := st_new σ b 5) (by rw [g_tg_new, if_pos rfl])]; simp [g_tg_sI, g_cl_sI, g_ln_sI, g_I_sI, g_J_sI, g_R_sI, g_eI_sI, g_eJ_sI, g_eR_sI, g_tg_uI, g_cl_uI, g_ln_uI, g_I_uI, g_J_uI, g_R_uI, g_eI_uI, g_eJ_uI, g_eR_uI, g_tg_sJ, g_cl_sJ, g_ln_sJ, g_I_sJ, g_J_sJ, g_R_sJ, g_eI_sJ, g_eJ_sJ, g_eR_sJ, g_tg_uJ, g_cl_uJ, g_ln_uJ, g_I_uJ, g_J_uJ, g_R_uJ, g_eI_uJ, g_eJ_uJ, g_eR_uJ, g_tg_sR, g_cl_sR, g_ln_sR, g_I_sR, g_J_sR, g_R_sR, g_eI_sR, g_eJ_sR, g_eR_sR, g_tg_uR, g_cl_uR, g_ln_uR, g_I_uR, g_J_uR, g_R_uR, g_eI_uR, g_eJ_uR, g_eR_uR, g_tg_new, g_cl_new, g_ln_new, g_I_new, g_J_new, g_R_new, g_eI_new, g_eJ_new, g_eR_new, g_tg_arr, g_cl_arr, g_ln_arr, g_I_arr, g_J_arr, g_R_arr, g_eI_arr, g_eJ_arr, g_eR_arr]
  · rw [va_up_ne _ _ hb]; exact cell_new_ne σ _ _ hb
theorem put_6_0 (σ : ST) (a : Nat) (v : Int32) (h : st_tg σ a = some 6) : st_cell (st_sI σ 240 a v) = va_up (st_cell σ) a (some (.inr (6, (fl_6 σ a).set 0 (.int v)))) := by
  funext b
  by_cases hb : b = a
  · subst hb; rw [va_up_self, cell_6 (σ := st_sI σ 240 b v) (by rw [g_tg_sI]; exact h)]; simp [g_tg_sI, g_cl_sI, g_ln_sI, g_I_sI, g_J_sI, g_R_sI, g_eI_sI, g_eJ_sI, g_eR_sI, g_tg_uI, g_cl_uI, g_ln_uI, g_I_uI, g_J_uI, g_R_uI, g_eI_uI, g_eJ_uI, g_eR_uI, g_tg_sJ, g_cl_sJ, g_ln_sJ, g_I_sJ, g_J_sJ, g_R_sJ, g_eI_sJ, g_eJ_sJ, g_eR_sJ, g_tg_uJ, g_cl_uJ, g_ln_uJ, g_I_uJ, g_J_uJ, g_R_uJ, g_eI_uJ, g_eJ_uJ, g_eR_uJ, g_tg_sR, g_cl_sR, g_ln_sR, g_I_sR, g_J_sR, g_R_sR, g_eI_sR, g_eJ_sR, g_eR_sR, g_tg_uR, g_cl_uR, g_ln_uR, g_I_uR, g_J_uR, g_R_uR, g_eI_uR, g_eJ_uR, g_eR_uR, g_tg_new, g_cl_new, g_ln_new, g_I_new, g_J_new, g_R_new, g_eI_new, g_eJ_new, g_eR_new, g_tg_arr, g_cl_arr, g_ln_arr, g_I_arr, g_J_arr, g_R_arr, g_eI_arr, g_eJ_arr, g_eR_arr]
  · rw [va_up_ne _ _ hb]; exact cell_sI_ne σ _ _ _ hb
theorem put_6_1 (σ : ST) (a : Nat) (v : Int64) (h : st_tg σ a = some 6) : st_cell (st_sJ σ 241 a v) = va_up (st_cell σ) a (some (.inr (6, (fl_6 σ a).set 1 (.long v)))) := by
  funext b
  by_cases hb : b = a
  · subst hb; rw [va_up_self, cell_6 (σ := st_sJ σ 241 b v) (by rw [g_tg_sJ]; exact h)]; simp [g_tg_sI, g_cl_sI, g_ln_sI, g_I_sI, g_J_sI, g_R_sI, g_eI_sI, g_eJ_sI, g_eR_sI, g_tg_uI, g_cl_uI, g_ln_uI, g_I_uI, g_J_uI, g_R_uI, g_eI_uI, g_eJ_uI, g_eR_uI, g_tg_sJ, g_cl_sJ, g_ln_sJ, g_I_sJ, g_J_sJ, g_R_sJ, g_eI_sJ, g_eJ_sJ, g_eR_sJ, g_tg_uJ, g_cl_uJ, g_ln_uJ, g_I_uJ, g_J_uJ, g_R_uJ, g_eI_uJ, g_eJ_uJ, g_eR_uJ, g_tg_sR, g_cl_sR, g_ln_sR, g_I_sR, g_J_sR, g_R_sR, g_eI_sR, g_eJ_sR, g_eR_sR, g_tg_uR, g_cl_uR, g_ln_uR, g_I_uR, g_J_uR, g_R_uR, g_eI_uR, g_eJ_uR, g_eR_uR, g_tg_new, g_cl_new, g_ln_new, g_I_new, g_J_new, g_R_new, g_eI_new, g_eJ_new, g_eR_new, g_tg_arr, g_cl_arr, g_ln_arr, g_I_arr, g_J_arr, g_R_arr, g_eI_arr, g_eJ_arr, g_eR_arr]
  · rw [va_up_ne _ _ hb]; exact cell_sJ_ne σ _ _ _ hb
theorem put_6_2 (σ : ST) (a : Nat) (v : Int32) (h : st_tg σ a = some 6) : st_cell (st_sI σ 242 a v) = va_up (st_cell σ) a (some (.inr (6, (fl_6 σ a).set 2 (.int v)))) := by
  funext b
  by_cases hb : b = a
  · subst hb; rw [va_up_self, cell_6 (σ := st_sI σ 242 b v) (by rw [g_tg_sI]; exact h)]; simp [g_tg_sI, g_cl_sI, g_ln_sI, g_I_sI, g_J_sI, g_R_sI, g_eI_sI, g_eJ_sI, g_eR_sI, g_tg_uI, g_cl_uI, g_ln_uI, g_I_uI, g_J_uI, g_R_uI, g_eI_uI, g_eJ_uI, g_eR_uI, g_tg_sJ, g_cl_sJ, g_ln_sJ, g_I_sJ, g_J_sJ, g_R_sJ, g_eI_sJ, g_eJ_sJ, g_eR_sJ, g_tg_uJ, g_cl_uJ, g_ln_uJ, g_I_uJ, g_J_uJ, g_R_uJ, g_eI_uJ, g_eJ_uJ, g_eR_uJ, g_tg_sR, g_cl_sR, g_ln_sR, g_I_sR, g_J_sR, g_R_sR, g_eI_sR, g_eJ_sR, g_eR_sR, g_tg_uR, g_cl_uR, g_ln_uR, g_I_uR, g_J_uR, g_R_uR, g_eI_uR, g_eJ_uR, g_eR_uR, g_tg_new, g_cl_new, g_ln_new, g_I_new, g_J_new, g_R_new, g_eI_new, g_eJ_new, g_eR_new, g_tg_arr, g_cl_arr, g_ln_arr, g_I_arr, g_J_arr, g_R_arr, g_eI_arr, g_eJ_arr, g_eR_arr]
  · rw [va_up_ne _ _ hb]; exact cell_sI_ne σ _ _ _ hb
theorem put_6_3 (σ : ST) (a : Nat) (v : Int64) (h : st_tg σ a = some 6) : st_cell (st_sJ σ 243 a v) = va_up (st_cell σ) a (some (.inr (6, (fl_6 σ a).set 3 (.long v)))) := by
  funext b
  by_cases hb : b = a
  · subst hb; rw [va_up_self, cell_6 (σ := st_sJ σ 243 b v) (by rw [g_tg_sJ]; exact h)]; simp [g_tg_sI, g_cl_sI, g_ln_sI, g_I_sI, g_J_sI, g_R_sI, g_eI_sI, g_eJ_sI, g_eR_sI, g_tg_uI, g_cl_uI, g_ln_uI, g_I_uI, g_J_uI, g_R_uI, g_eI_uI, g_eJ_uI, g_eR_uI, g_tg_sJ, g_cl_sJ, g_ln_sJ, g_I_sJ, g_J_sJ, g_R_sJ, g_eI_sJ, g_eJ_sJ, g_eR_sJ, g_tg_uJ, g_cl_uJ, g_ln_uJ, g_I_uJ, g_J_uJ, g_R_uJ, g_eI_uJ, g_eJ_uJ, g_eR_uJ, g_tg_sR, g_cl_sR, g_ln_sR, g_I_sR, g_J_sR, g_R_sR, g_eI_sR, g_eJ_sR, g_eR_sR, g_tg_uR, g_cl_uR, g_ln_uR, g_I_uR, g_J_uR, g_R_uR, g_eI_uR, g_eJ_uR, g_eR_uR, g_tg_new, g_cl_new, g_ln_new, g_I_new, g_J_new, g_R_new, g_eI_new, g_eJ_new, g_eR_new, g_tg_arr, g_cl_arr, g_ln_arr, g_I_arr, g_J_arr, g_R_arr, g_eI_arr, g_eJ_arr, g_eR_arr]
  · rw [va_up_ne _ _ hb]; exact cell_sJ_ne σ _ _ _ hb
theorem put_6_4 (σ : ST) (a : Nat) (v : Int32) (h : st_tg σ a = some 6) : st_cell (st_sI σ 244 a v) = va_up (st_cell σ) a (some (.inr (6, (fl_6 σ a).set 4 (.int v)))) := by
  funext b
  by_cases hb : b = a
  · subst hb; rw [va_up_self, cell_6 (σ := st_sI σ 244 b v) (by rw [g_tg_sI]; exact h)]; simp [g_tg_sI, g_cl_sI, g_ln_sI, g_I_sI, g_J_sI, g_R_sI, g_eI_sI, g_eJ_sI, g_eR_sI, g_tg_uI, g_cl_uI, g_ln_uI, g_I_uI, g_J_uI, g_R_uI, g_eI_uI, g_eJ_uI, g_eR_uI, g_tg_sJ, g_cl_sJ, g_ln_sJ, g_I_sJ, g_J_sJ, g_R_sJ, g_eI_sJ, g_eJ_sJ, g_eR_sJ, g_tg_uJ, g_cl_uJ, g_ln_uJ, g_I_uJ, g_J_uJ, g_R_uJ, g_eI_uJ, g_eJ_uJ, g_eR_uJ, g_tg_sR, g_cl_sR, g_ln_sR, g_I_sR, g_J_sR, g_R_sR, g_eI_sR, g_eJ_sR, g_eR_sR, g_tg_uR, g_cl_uR, g_ln_uR, g_I_uR, g_J_uR, g_R_uR, g_eI_uR, g_eJ_uR, g_eR_uR, g_tg_new, g_cl_new, g_ln_new, g_I_new, g_J_new, g_R_new, g_eI_new, g_eJ_new, g_eR_new, g_tg_arr, g_cl_arr, g_ln_arr, g_I_arr, g_J_arr, g_R_arr, g_eI_arr, g_eJ_arr, g_eR_arr]
  · rw [va_up_ne _ _ hb]; exact cell_sI_ne σ _ _ _ hb
abbrev df_6 : List Value := [.int 0, .long 0, .int 0, .long 0, .int 0]
theorem new_6 (σ : ST) (q : Nat) (h : st_tg σ q = none) : st_cell (st_new σ q 6) = va_up (st_cell σ) q (some (.inr (6, df_6))) := by
  funext b
  by_cases hb : b = q
  · subst hb; rw [va_up_self, cell_6 (σ := st_new σ b 6) (by rw [g_tg_new, if_pos rfl])]; simp [g_tg_sI, g_cl_sI, g_ln_sI, g_I_sI, g_J_sI, g_R_sI, g_eI_sI, g_eJ_sI, g_eR_sI, g_tg_uI, g_cl_uI, g_ln_uI, g_I_uI, g_J_uI, g_R_uI, g_eI_uI, g_eJ_uI, g_eR_uI, g_tg_sJ, g_cl_sJ, g_ln_sJ, g_I_sJ, g_J_sJ, g_R_sJ, g_eI_sJ, g_eJ_sJ, g_eR_sJ, g_tg_uJ, g_cl_uJ, g_ln_uJ, g_I_uJ, g_J_uJ, g_R_uJ, g_eI_uJ, g_eJ_uJ, g_eR_uJ, g_tg_sR, g_cl_sR, g_ln_sR, g_I_sR, g_J_sR, g_R_sR, g_eI_sR, g_eJ_sR, g_eR_sR, g_tg_uR, g_cl_uR, g_ln_uR, g_I_uR, g_J_uR, g_R_uR, g_eI_uR, g_eJ_uR, g_eR_uR, g_tg_new, g_cl_new, g_ln_new, g_I_new, g_J_new, g_R_new, g_eI_new, g_eJ_new, g_eR_new, g_tg_arr, g_cl_arr, g_ln_arr, g_I_arr, g_J_arr, g_R_arr, g_eI_arr, g_eJ_arr, g_eR_arr]
  · rw [va_up_ne _ _ hb]; exact cell_new_ne σ _ _ hb
theorem uput_301 (σ : ST) (a i : Nat) (v : Int32) (h : st_tg σ a = some 301) : st_cell (st_uI σ a i v) = va_up (st_cell σ) a (some (.inl (st_cl σ a, st_ln σ a, .inl (upd (st_eI σ a) i v)))) := by
  funext b
  by_cases hb : b = a
  · subst hb
    rw [va_up_self, cell_301 (σ := st_uI σ b i v) (by rw [g_tg_uI]; exact h), g_cl_uI, g_ln_uI]
    have hf : st_eI (st_uI σ b i v) b = upd (st_eI σ b) i v := by funext j; simp [g_eI_uI, upd]
    rw [hf]
  · rw [va_up_ne _ _ hb]; exact cell_uI_ne σ _ _ _ hb
theorem anew_301 (σ : ST) (q : Nat) (cA : ClassId) (n : Nat) (h : st_tg σ q = none) : st_cell (st_arr σ q 301 cA n) = va_up (st_cell σ) q (some (.inl (cA, n, .inl (fun _ => 0)))) := by
  funext b
  by_cases hb : b = q
  · subst hb
    rw [va_up_self, cell_301 (σ := st_arr σ b 301 cA n) (by rw [g_tg_arr, if_pos rfl])]
    have hf : st_eI (st_arr σ b 301 cA n) b = fun _ => 0 := by funext j; simp [g_eI_arr]
    rw [hf, g_cl_arr, g_ln_arr, if_pos rfl, if_pos rfl]
  · rw [va_up_ne _ _ hb]; exact cell_arr_ne σ _ _ _ _ hb
theorem uput_302 (σ : ST) (a i : Nat) (v : Int64) (h : st_tg σ a = some 302) : st_cell (st_uJ σ a i v) = va_up (st_cell σ) a (some (.inl (st_cl σ a, st_ln σ a, .inr (.inl (vp_updL (st_eJ σ a) i v))))) := by
  funext b
  by_cases hb : b = a
  · subst hb
    rw [va_up_self, cell_302 (σ := st_uJ σ b i v) (by rw [g_tg_uJ]; exact h), g_cl_uJ, g_ln_uJ]
    have hf : st_eJ (st_uJ σ b i v) b = vp_updL (st_eJ σ b) i v := by funext j; simp [g_eJ_uJ, vp_updL]
    rw [hf]
  · rw [va_up_ne _ _ hb]; exact cell_uJ_ne σ _ _ _ hb
theorem anew_302 (σ : ST) (q : Nat) (cA : ClassId) (n : Nat) (h : st_tg σ q = none) : st_cell (st_arr σ q 302 cA n) = va_up (st_cell σ) q (some (.inl (cA, n, .inr (.inl (fun _ => 0))))) := by
  funext b
  by_cases hb : b = q
  · subst hb
    rw [va_up_self, cell_302 (σ := st_arr σ b 302 cA n) (by rw [g_tg_arr, if_pos rfl])]
    have hf : st_eJ (st_arr σ b 302 cA n) b = fun _ => 0 := by funext j; simp [g_eJ_arr]
    rw [hf, g_cl_arr, g_ln_arr, if_pos rfl, if_pos rfl]
  · rw [va_up_ne _ _ hb]; exact cell_arr_ne σ _ _ _ _ hb
theorem uput_303 (σ : ST) (a i : Nat) (v : Int32) (h : st_tg σ a = some 303) : st_cell (st_uI σ a i v) = va_up (st_cell σ) a (some (.inl (st_cl σ a, st_ln σ a, .inl (upd (st_eI σ a) i v)))) := by
  funext b
  by_cases hb : b = a
  · subst hb
    rw [va_up_self, cell_303 (σ := st_uI σ b i v) (by rw [g_tg_uI]; exact h), g_cl_uI, g_ln_uI]
    have hf : st_eI (st_uI σ b i v) b = upd (st_eI σ b) i v := by funext j; simp [g_eI_uI, upd]
    rw [hf]
  · rw [va_up_ne _ _ hb]; exact cell_uI_ne σ _ _ _ hb
theorem anew_303 (σ : ST) (q : Nat) (cA : ClassId) (n : Nat) (h : st_tg σ q = none) : st_cell (st_arr σ q 303 cA n) = va_up (st_cell σ) q (some (.inl (cA, n, .inl (fun _ => 0)))) := by
  funext b
  by_cases hb : b = q
  · subst hb
    rw [va_up_self, cell_303 (σ := st_arr σ b 303 cA n) (by rw [g_tg_arr, if_pos rfl])]
    have hf : st_eI (st_arr σ b 303 cA n) b = fun _ => 0 := by funext j; simp [g_eI_arr]
    rw [hf, g_cl_arr, g_ln_arr, if_pos rfl, if_pos rfl]
  · rw [va_up_ne _ _ hb]; exact cell_arr_ne σ _ _ _ _ hb
theorem uput_312 (σ : ST) (a i : Nat) (v : Option Nat) (h : st_tg σ a = some 312) : st_cell (st_uR σ a i v) = va_up (st_cell σ) a (some (.inl (st_cl σ a, st_ln σ a, .inr (.inr (.inr (.inr (va_up (st_eR σ a) i v))))))) := by
  funext b
  by_cases hb : b = a
  · subst hb
    rw [va_up_self, cell_312 (σ := st_uR σ b i v) (by rw [g_tg_uR]; exact h), g_cl_uR, g_ln_uR]
    have hf : st_eR (st_uR σ b i v) b = va_up (st_eR σ b) i v := by funext j; simp [g_eR_uR, va_up]
    rw [hf]
  · rw [va_up_ne _ _ hb]; exact cell_uR_ne σ _ _ _ hb
theorem anew_312 (σ : ST) (q : Nat) (cA : ClassId) (n : Nat) (h : st_tg σ q = none) : st_cell (st_arr σ q 312 cA n) = va_up (st_cell σ) q (some (.inl (cA, n, .inr (.inr (.inr (.inr (fun _ => none))))))) := by
  funext b
  by_cases hb : b = q
  · subst hb
    rw [va_up_self, cell_312 (σ := st_arr σ b 312 cA n) (by rw [g_tg_arr, if_pos rfl])]
    have hf : st_eR (st_arr σ b 312 cA n) b = fun _ => none := by funext j; simp [g_eR_arr]
    rw [hf, g_cl_arr, g_ln_arr, if_pos rfl, if_pos rfl]
  · rw [va_up_ne _ _ hb]; exact cell_arr_ne σ _ _ _ _ hb
theorem uput_313 (σ : ST) (a i : Nat) (v : Option Nat) (h : st_tg σ a = some 313) : st_cell (st_uR σ a i v) = va_up (st_cell σ) a (some (.inl (st_cl σ a, st_ln σ a, .inr (.inr (.inr (.inr (va_up (st_eR σ a) i v))))))) := by
  funext b
  by_cases hb : b = a
  · subst hb
    rw [va_up_self, cell_313 (σ := st_uR σ b i v) (by rw [g_tg_uR]; exact h), g_cl_uR, g_ln_uR]
    have hf : st_eR (st_uR σ b i v) b = va_up (st_eR σ b) i v := by funext j; simp [g_eR_uR, va_up]
    rw [hf]
  · rw [va_up_ne _ _ hb]; exact cell_uR_ne σ _ _ _ hb
theorem anew_313 (σ : ST) (q : Nat) (cA : ClassId) (n : Nat) (h : st_tg σ q = none) : st_cell (st_arr σ q 313 cA n) = va_up (st_cell σ) q (some (.inl (cA, n, .inr (.inr (.inr (.inr (fun _ => none))))))) := by
  funext b
  by_cases hb : b = q
  · subst hb
    rw [va_up_self, cell_313 (σ := st_arr σ b 313 cA n) (by rw [g_tg_arr, if_pos rfl])]
    have hf : st_eR (st_arr σ b 313 cA n) b = fun _ => none := by funext j; simp [g_eR_arr]
    rw [hf, g_cl_arr, g_ln_arr, if_pos rfl, if_pos rfl]
  · rw [va_up_ne _ _ hb]; exact cell_arr_ne σ _ _ _ _ hb
theorem uput_314 (σ : ST) (a i : Nat) (v : Option Nat) (h : st_tg σ a = some 314) : st_cell (st_uR σ a i v) = va_up (st_cell σ) a (some (.inl (st_cl σ a, st_ln σ a, .inr (.inr (.inr (.inr (va_up (st_eR σ a) i v))))))) := by
  funext b
  by_cases hb : b = a
  · subst hb
    rw [va_up_self, cell_314 (σ := st_uR σ b i v) (by rw [g_tg_uR]; exact h), g_cl_uR, g_ln_uR]
    have hf : st_eR (st_uR σ b i v) b = va_up (st_eR σ b) i v := by funext j; simp [g_eR_uR, va_up]
    rw [hf]
  · rw [va_up_ne _ _ hb]; exact cell_uR_ne σ _ _ _ hb
theorem anew_314 (σ : ST) (q : Nat) (cA : ClassId) (n : Nat) (h : st_tg σ q = none) : st_cell (st_arr σ q 314 cA n) = va_up (st_cell σ) q (some (.inl (cA, n, .inr (.inr (.inr (.inr (fun _ => none))))))) := by
  funext b
  by_cases hb : b = q
  · subst hb
    rw [va_up_self, cell_314 (σ := st_arr σ b 314 cA n) (by rw [g_tg_arr, if_pos rfl])]
    have hf : st_eR (st_arr σ b 314 cA n) b = fun _ => none := by funext j; simp [g_eR_arr]
    rw [hf, g_cl_arr, g_ln_arr, if_pos rfl, if_pos rfl]
  · rw [va_up_ne _ _ hb]; exact cell_arr_ne σ _ _ _ _ hb
theorem uput_315 (σ : ST) (a i : Nat) (v : Option Nat) (h : st_tg σ a = some 315) : st_cell (st_uR σ a i v) = va_up (st_cell σ) a (some (.inl (st_cl σ a, st_ln σ a, .inr (.inr (.inr (.inr (va_up (st_eR σ a) i v))))))) := by
  funext b
  by_cases hb : b = a
  · subst hb
    rw [va_up_self, cell_315 (σ := st_uR σ b i v) (by rw [g_tg_uR]; exact h), g_cl_uR, g_ln_uR]
    have hf : st_eR (st_uR σ b i v) b = va_up (st_eR σ b) i v := by funext j; simp [g_eR_uR, va_up]
    rw [hf]
  · rw [va_up_ne _ _ hb]; exact cell_uR_ne σ _ _ _ hb
theorem anew_315 (σ : ST) (q : Nat) (cA : ClassId) (n : Nat) (h : st_tg σ q = none) : st_cell (st_arr σ q 315 cA n) = va_up (st_cell σ) q (some (.inl (cA, n, .inr (.inr (.inr (.inr (fun _ => none))))))) := by
  funext b
  by_cases hb : b = q
  · subst hb
    rw [va_up_self, cell_315 (σ := st_arr σ b 315 cA n) (by rw [g_tg_arr, if_pos rfl])]
    have hf : st_eR (st_arr σ b 315 cA n) b = fun _ => none := by funext j; simp [g_eR_arr]
    rw [hf, g_cl_arr, g_ln_arr, if_pos rfl, if_pos rfl]
  · rw [va_up_ne _ _ hb]; exact cell_arr_ne σ _ _ _ _ hb
theorem uput_316 (σ : ST) (a i : Nat) (v : Option Nat) (h : st_tg σ a = some 316) : st_cell (st_uR σ a i v) = va_up (st_cell σ) a (some (.inl (st_cl σ a, st_ln σ a, .inr (.inr (.inr (.inr (va_up (st_eR σ a) i v))))))) := by
  funext b
  by_cases hb : b = a
  · subst hb
    rw [va_up_self, cell_316 (σ := st_uR σ b i v) (by rw [g_tg_uR]; exact h), g_cl_uR, g_ln_uR]
    have hf : st_eR (st_uR σ b i v) b = va_up (st_eR σ b) i v := by funext j; simp [g_eR_uR, va_up]
    rw [hf]
  · rw [va_up_ne _ _ hb]; exact cell_uR_ne σ _ _ _ hb
theorem anew_316 (σ : ST) (q : Nat) (cA : ClassId) (n : Nat) (h : st_tg σ q = none) : st_cell (st_arr σ q 316 cA n) = va_up (st_cell σ) q (some (.inl (cA, n, .inr (.inr (.inr (.inr (fun _ => none))))))) := by
  funext b
  by_cases hb : b = q
  · subst hb
    rw [va_up_self, cell_316 (σ := st_arr σ b 316 cA n) (by rw [g_tg_arr, if_pos rfl])]
    have hf : st_eR (st_arr σ b 316 cA n) b = fun _ => none := by funext j; simp [g_eR_arr]
    rw [hf, g_cl_arr, g_ln_arr, if_pos rfl, if_pos rfl]
  · rw [va_up_ne _ _ hb]; exact cell_arr_ne σ _ _ _ _ hb
theorem dfl_0 : ∀ j, j < 10 → defaultValue (ty_X j) = vp_V df_0 j := by
  intro j hj
  rcases (show j = 0 ∨ j = 1 ∨ j = 2 ∨ j = 3 ∨ j = 4 ∨ j = 5 ∨ j = 6 ∨ j = 7 ∨ j = 8 ∨ j = 9 by omega) with rfl | rfl | rfl | rfl | rfl | rfl | rfl | rfl | rfl | rfl <;> rfl
theorem dfl_1 : ∀ j, j < 32 → defaultValue (ty_M j) = vp_V df_1 j := by
  intro j hj
  rcases (show j = 0 ∨ j = 1 ∨ j = 2 ∨ j = 3 ∨ j = 4 ∨ j = 5 ∨ j = 6 ∨ j = 7 ∨ j = 8 ∨ j = 9 ∨ j = 10 ∨ j = 11 ∨ j = 12 ∨ j = 13 ∨ j = 14 ∨ j = 15 ∨ j = 16 ∨ j = 17 ∨ j = 18 ∨ j = 19 ∨ j = 20 ∨ j = 21 ∨ j = 22 ∨ j = 23 ∨ j = 24 ∨ j = 25 ∨ j = 26 ∨ j = 27 ∨ j = 28 ∨ j = 29 ∨ j = 30 ∨ j = 31 by omega) with rfl | rfl | rfl | rfl | rfl | rfl | rfl | rfl | rfl | rfl | rfl | rfl | rfl | rfl | rfl | rfl | rfl | rfl | rfl | rfl | rfl | rfl | rfl | rfl | rfl | rfl | rfl | rfl | rfl | rfl | rfl | rfl <;> rfl
theorem dfl_2 : ∀ j, j < 3 → defaultValue (ty_Collected j) = vp_V df_2 j := by
  intro j hj
  rcases (show j = 0 ∨ j = 1 ∨ j = 2 by omega) with rfl | rfl | rfl <;> rfl
theorem dfl_3 : ∀ j, j < 1 → defaultValue (ty_Currency j) = vp_V df_3 j := by
  intro j hj
  rcases (show j = 0 by omega) with rfl <;> rfl
theorem dfl_4 : ∀ j, j < 9 → defaultValue (ty_Office j) = vp_V df_4 j := by
  intro j hj
  rcases (show j = 0 ∨ j = 1 ∨ j = 2 ∨ j = 3 ∨ j = 4 ∨ j = 5 ∨ j = 6 ∨ j = 7 ∨ j = 8 by omega) with rfl | rfl | rfl | rfl | rfl | rfl | rfl | rfl | rfl <;> rfl
theorem dfl_5 : ∀ j, j < 11 → defaultValue (ty_Order j) = vp_V df_5 j := by
  intro j hj
  rcases (show j = 0 ∨ j = 1 ∨ j = 2 ∨ j = 3 ∨ j = 4 ∨ j = 5 ∨ j = 6 ∨ j = 7 ∨ j = 8 ∨ j = 9 ∨ j = 10 by omega) with rfl | rfl | rfl | rfl | rfl | rfl | rfl | rfl | rfl | rfl | rfl <;> rfl
theorem dfl_6 : ∀ j, j < 5 → defaultValue (ty_Try j) = vp_V df_6 j := by
  intro j hj
  rcases (show j = 0 ∨ j = 1 ∨ j = 2 ∨ j = 3 ∨ j = 4 by omega) with rfl | rfl | rfl | rfl | rfl <;> rfl
end
section
/-! THE WORLD of a state σ: its cells lie in the heap, its arrays' classes are known, new cells may be made -/
def mk_K (D : va_G) (σ : ST) (U : State) : Prop := va_K D vwCl [] U ∧ ∀ (a k : Nat) (ty : FieldType), st_tg σ a = some k → st_aty k = some ty → va_K D vwCl [(st_cl σ a, ty)] U
def mw (D : va_G) (A : Nat → Prop) (σ : ST) (U : State) : Prop := mg_H D vwCl A (st_cell σ) U.heap ∧ mk_K D σ U ∧ ∀ q, U.heap.size ≤ q → A q
theorem mk_K.moved {D : va_G} {σ : ST} {u U : State} (hvm : u.vm.Alike U.vm) (h : mk_K D σ u) : mk_K D σ U := ⟨va_K.moved hvm h.1, fun a k ty h1 h2 => va_K.moved hvm (h.2 a k ty h1 h2)⟩
/-- the words that a call doesn't carry by itself: links of nest mates, arrays of objects -/
def isNest : Cond → Bool
  | .fieldLinkNest .. => true
  | .methodLinkNest .. => true
  | .arrayOver (.object _) => true
  | _ => false
def mn (U : State) : Prop := ∀ w ∈ lw_tbl, isNest w = true → va_Nw w U
theorem mn_warm {s U : State} (hW : s.WarmedH U.vm) (h : mn s) : mn U := fun w hw hq => by
  cases w with
  | fieldLinkNest a i b n d k => exact va_Nw.warmF hW (h _ hw hq)
  | methodLinkNest a i x k => exact va_Nw.warmM hW (h _ hw hq)
  | arrayOver t =>
    cases t with
    | object C => exact va_AO.moved hW.alike (h _ hw hq)
    | _ => cases hq
  | _ => cases hq
theorem mn_same {u U : State} (e : u.vm = U.vm) (h : mn u) : mn U := fun w hw hq => by
  cases w with
  | fieldLinkNest a i b n d k => exact va_Nw.same rfl e (h _ hw hq)
  | methodLinkNest a i x k => exact va_Nw.same rfl e (h _ hw hq)
  | arrayOver t =>
    cases t with
    | object C => exact va_AO.moved (u := u) (by rw [e]; exact Vm.Alike.refl _) (h _ hw hq)
    | _ => cases hq
  | _ => cases hq
theorem mn_of {s : State} {args : Array Value} (hts : ∀ w ∈ lw_tbl, w.before args s = true) : mn s := fun w hw hq => by
  cases w with
  | fieldLinkNest a i b n d k => exact va_Nw.of rfl (hts _ hw)
  | methodLinkNest a i x k => exact va_Nw.of rfl (hts _ hw)
  | arrayOver t =>
    cases t with
    | object C => exact va_AO.of (hts _ hw)
    | _ => cases hq
  | _ => cases hq
theorem mw_blind {D : va_G} {A : Nat → Prop} {σ : ST} {av : List Value} {P : Prop} : FrameBlind (va_Pc av (fun U => mw D A σ U ∧ mn U ∧ P)) := fun a U g mk q => by
  obtain ⟨q0, ⟨q1, q2, q3⟩, q5, q4⟩ := q
  exact ⟨q0, ⟨q1, mk_K.moved (u := U) (U := U.calling g mk a) (Vm.Alike.refl U.vm) q2, q3⟩, mn_same (u := U) (U := U.calling g mk a) rfl q5, q4⟩
theorem mw_pass {D : va_G} {A : Nat → Prop} {σ : ST} {s U : State} {H : Heap} {locs : List Loc} (hH : mg_H D vwCl A (st_cell σ) H) (hK : mk_K D σ s) (hA : ∀ q, s.heap.size ≤ q → A q) (hS : va_S A s.heap H locs) (hU : U.heap = H) (hW : s.WarmedH U.vm) : mw D A σ U :=
  ⟨by rw [hU]; exact hH, mk_K.moved hW.alike hK, fun q h => hA q (Nat.le_trans hS.1 (by rw [← hU]; exact h))⟩
section MSR
variable {p : Program} {l : Launch} {e : Env} {R : Room} {s : State} {m : MethodId} {args : Array Value} {below : List Frame} {meth : Method} {c : Code} {H : Heap} {locs : List Loc} {cells slots : Nat} {Q : State → Prop}
variable {cc : ByteArray} {pc : Nat} {ls : Array Slot} {rest st0 : List Value} {D : va_G} {A : Nat → Prop} {a : Nat} {r : Option Nat} {av : Array Value} {mc ms : Nat} {σ : ST}
theorem ms_get (hexec : p.tables.exec = Jvm.exec) (hb : c.code = cc) {own ref C : String} {T : u_T} {N ci index : Nat} {Ts : List Cond} (hts : ∀ w ∈ Ts, w.before args s = true) (hin : ∀ w ∈ u_ws C T N, w ∈ Ts) (hown : s.vm.findClass own = some m.cls) (hK : mk_K D σ s) (hH : mg_H D vwCl A (st_cell σ) H) (hr : r = some a) {fs : List Value} (he : st_cell σ a = some (.inr (ci, fs))) (hc : vwCl[ci]? = some (C, T, N)) (k : Nat) (hk : k < N) (hlink : (Cond.fieldLink own index ref (T k).2.1 (T k).2.2.1).before args s = true) (hsame : ∀ x, s.fieldFound? (T k).1 (T k).2.1 (T k).2.2.1 = some x → s.fieldFound? ref (T k).2.1 (T k).2.2.1 = some x) {v : Value} (hv : fs[k]? = some v) (hdg : decode cc pc = .ok (.getfield index, 3))
    (kk : W p l e R s m args below meth c H locs cells slots Q (F0 m (pc + 3) ls (v :: rest))) : W p l e R s m args below meth c H locs cells slots Q (F0 m pc ls (va_rf r :: rest)) := by
  subst hr
  exact mg_get hexec hb hts hin hown hK.1 hH he hc k hk hlink hsame hv hdg kk
theorem ms_getN (hexec : p.tables.exec = Jvm.exec) (hb : c.code = cc) {own ref C host : String} {T : u_T} {N ci index : Nat} {Ts : List Cond} (hts : ∀ w ∈ Ts, w.before args s = true) (hin : ∀ w ∈ u_ws C T N, w ∈ Ts) (hown : s.vm.findClass own = some m.cls) (hK : mk_K D σ s) (hH : mg_H D vwCl A (st_cell σ) H) (hr : r = some a) {fs : List Value} (he : st_cell σ a = some (.inr (ci, fs))) (hc : vwCl[ci]? = some (C, T, N)) (k : Nat) (hk : k < N) (hlink : (Cond.fieldLinkNest own index ref (T k).2.1 (T k).2.2.1 host).before args s = true) (hsame : ∀ x, s.fieldFound? (T k).1 (T k).2.1 (T k).2.2.1 = some x → s.fieldFound? ref (T k).2.1 (T k).2.2.1 = some x) {v : Value} (hv : fs[k]? = some v) (hdg : decode cc pc = .ok (.getfield index, 3))
    (kk : W p l e R s m args below meth c H locs cells slots Q (F0 m (pc + 3) ls (v :: rest))) : W p l e R s m args below meth c H locs cells slots Q (F0 m pc ls (va_rf r :: rest)) := by
  subst hr
  exact mg_getN hexec hb hts hin hown hK.1 hH he hc k hk hlink hsame hv hdg kk
/-- behind a store: the state's arrays' classes are the same -/
theorem mk_K.of {σ1 : ST} (h : mk_K D σ s) (h1 : st_tg σ1 = st_tg σ) (h2 : st_cl σ1 = st_cl σ) : mk_K D σ1 s := ⟨h.1, fun a k ty q1 q2 => by rw [h2]; exact h.2 a k ty (by rw [← h1]; exact q1) q2⟩
theorem ms_put (hexec : p.tables.exec = Jvm.exec) (hb : c.code = cc) {own ref C : String} {T : u_T} {N ci index : Nat} {Ts : List Cond} (hts : ∀ w ∈ Ts, w.before args s = true) (hin : ∀ w ∈ u_ws C T N, w ∈ Ts) (ty0 : Nat → FieldType) (hty : ∀ k, k < N → parseFieldDescriptor (T k).2.2.1 = some (ty0 k)) (hnm : ∀ a, a < N → ∀ b, b < N → a ≠ b → (T a).2.1 ≠ (T b).2.1) (hown : s.vm.findClass own = some m.cls) (hK : mk_K D σ s) (hH : mg_H D vwCl A (st_cell σ) H) (hS0 : va_S A s.heap H locs) (hr : r = some a) {fs : List Value} (he : st_cell σ a = some (.inr (ci, fs))) (hc : vwCl[ci]? = some (C, T, N)) (k : Nat) (hk : k < N) (hlink : (Cond.fieldLink own index ref (T k).2.1 (T k).2.2.1).before args s = true) (hsame : ∀ x, s.fieldFound? (T k).1 (T k).2.1 (T k).2.2.1 = some x → s.fieldFound? ref (T k).2.1 (T k).2.2.1 = some x) (hfin : (T k).2.2.2 = false) {ty : FieldType} {v : Value} (hd : parseFieldDescriptor (T k).2.2.1 = some ty) (hn : narrow ty v = v) (hfit : fits ty v = true) (hl : k < fs.length) (hdg : decode cc pc = .ok (.putfield index, 3)) {σ1 : ST} (hM' : st_cell σ1 = va_up (st_cell σ) a (some (.inr (ci, fs.set k v)))) (h1 : st_tg σ1 = st_tg σ) (h2 : st_cl σ1 = st_cl σ)
    (kk : ∀ (H1 : Heap) (locs1 : List Loc), mg_H D vwCl A (st_cell σ1) H1 → mk_K D σ1 s → va_S A s.heap H1 locs1 → W p l e R s m args below meth c H1 locs1 cells slots Q (F0 m (pc + 3) ls rest)) : W p l e R s m args below meth c H locs cells slots Q (F0 m pc ls (v :: va_rf r :: rest)) := by
  subst hr
  exact mg_put hexec hb hts hin ty0 hty hnm hown hK.1 hH hS0 he hc k hk hlink hsame hfin hd hn hfit hl hdg hM' (fun H1 locs1 q1 q2 => kk H1 locs1 q1 (hK.of h1 h2) q2)
theorem ms_putN (hexec : p.tables.exec = Jvm.exec) (hb : c.code = cc) {own ref C host : String} {T : u_T} {N ci index : Nat} {Ts : List Cond} (hts : ∀ w ∈ Ts, w.before args s = true) (hin : ∀ w ∈ u_ws C T N, w ∈ Ts) (ty0 : Nat → FieldType) (hty : ∀ k, k < N → parseFieldDescriptor (T k).2.2.1 = some (ty0 k)) (hnm : ∀ a, a < N → ∀ b, b < N → a ≠ b → (T a).2.1 ≠ (T b).2.1) (hown : s.vm.findClass own = some m.cls) (hK : mk_K D σ s) (hH : mg_H D vwCl A (st_cell σ) H) (hS0 : va_S A s.heap H locs) (hr : r = some a) {fs : List Value} (he : st_cell σ a = some (.inr (ci, fs))) (hc : vwCl[ci]? = some (C, T, N)) (k : Nat) (hk : k < N) (hlink : (Cond.fieldLinkNest own index ref (T k).2.1 (T k).2.2.1 host).before args s = true) (hsame : ∀ x, s.fieldFound? (T k).1 (T k).2.1 (T k).2.2.1 = some x → s.fieldFound? ref (T k).2.1 (T k).2.2.1 = some x) (hfin : (T k).2.2.2 = false) {ty : FieldType} {v : Value} (hd : parseFieldDescriptor (T k).2.2.1 = some ty) (hn : narrow ty v = v) (hfit : fits ty v = true) (hl : k < fs.length) (hdg : decode cc pc = .ok (.putfield index, 3)) {σ1 : ST} (hM' : st_cell σ1 = va_up (st_cell σ) a (some (.inr (ci, fs.set k v)))) (h1 : st_tg σ1 = st_tg σ) (h2 : st_cl σ1 = st_cl σ)
    (kk : ∀ (H1 : Heap) (locs1 : List Loc), mg_H D vwCl A (st_cell σ1) H1 → mk_K D σ1 s → va_S A s.heap H1 locs1 → W p l e R s m args below meth c H1 locs1 cells slots Q (F0 m (pc + 3) ls rest)) : W p l e R s m args below meth c H locs cells slots Q (F0 m pc ls (v :: va_rf r :: rest)) := by
  subst hr
  exact mg_putN hexec hb hts hin ty0 hty hnm hown hK.1 hH hS0 he hc k hk hlink hsame hfin hd hn hfit hl hdg hM' (fun H1 locs1 q1 q2 => kk H1 locs1 q1 (hK.of h1 h2) q2)
theorem ms_putF (hexec : p.tables.exec = Jvm.exec) (hb : c.code = cc) {own ref C : String} {T : u_T} {N ci index : Nat} {Ts : List Cond} (hts : ∀ w ∈ Ts, w.before args s = true) (hin : ∀ w ∈ u_ws C T N, w ∈ Ts) (ty0 : Nat → FieldType) (hty : ∀ k, k < N → parseFieldDescriptor (T k).2.2.1 = some (ty0 k)) (hnm : ∀ a, a < N → ∀ b, b < N → a ≠ b → (T a).2.1 ≠ (T b).2.1) (hown : s.vm.findClass own = some m.cls) (hK : mk_K D σ s) (hH : mg_H D vwCl A (st_cell σ) H) (hS0 : va_S A s.heap H locs) (hr : r = some a) {fs : List Value} (he : st_cell σ a = some (.inr (ci, fs))) (hc : vwCl[ci]? = some (C, T, N)) (k : Nat) (hk : k < N) (hlink : (Cond.fieldLink own index ref (T k).2.1 (T k).2.2.1).before args s = true) (hsame : ∀ x, s.fieldFound? (T k).1 (T k).2.1 (T k).2.2.1 = some x → s.fieldFound? ref (T k).2.1 (T k).2.2.1 = some x) (hfin : (T k).2.2.2 = true) (hin2 : meth.name = "<init>") (hdecl : (T k).1 = own) {ty : FieldType} {v : Value} (hd : parseFieldDescriptor (T k).2.2.1 = some ty) (hn : narrow ty v = v) (hfit : fits ty v = true) (hl : k < fs.length) (hdg : decode cc pc = .ok (.putfield index, 3)) {σ1 : ST} (hM' : st_cell σ1 = va_up (st_cell σ) a (some (.inr (ci, fs.set k v)))) (h1 : st_tg σ1 = st_tg σ) (h2 : st_cl σ1 = st_cl σ)
    (kk : ∀ (H1 : Heap) (locs1 : List Loc), mg_H D vwCl A (st_cell σ1) H1 → mk_K D σ1 s → va_S A s.heap H1 locs1 → W p l e R s m args below meth c H1 locs1 cells slots Q (F0 m (pc + 3) ls rest)) : W p l e R s m args below meth c H locs cells slots Q (F0 m pc ls (v :: va_rf r :: rest)) := by
  subst hr
  exact mg_putF hexec hb hts hin ty0 hty hnm hown hK.1 hH hS0 he hc k hk hlink hsame hfin hin2 hdecl hd hn hfit hl hdg hM' (fun H1 locs1 q1 q2 => kk H1 locs1 q1 (hK.of h1 h2) q2)
/-- what comes back of a call -/
theorem mk_back {σ1 : ST} {t : State} {H1 : Heap} (ht : t.heap = H1) (hvm : s.vm.Alike t.vm) (hB : mw D A σ1 t) : mg_H D vwCl A (st_cell σ1) H1 ∧ mk_K D σ1 s := ⟨by rw [← ht]; exact hB.1, mk_K.moved hvm.symm hB.2.1⟩
theorem ms_calli {K : Int32 → ST → Prop} (hr : va_Run p l e R s m args below meth c H locs cells slots mc ms (F0 m pc ls st0) rest (va_Qi K (mw D A) A av) A) (hS : va_S A s.heap H locs)
    (kk : ∀ (x : Int32) (σ1 : ST) (H1 : Heap) (locs1 : List Loc), K x σ1 → mg_H D vwCl A (st_cell σ1) H1 → mk_K D σ1 s → va_S A s.heap H1 locs1 → W p l e R s m args below meth c H1 locs1 (cells + mc) (slots + ms) Q (F0 m (pc + 3) ls (.int x :: rest))) : W p l e R s m args below meth c H locs cells slots Q (F0 m pc ls st0) :=
  va_calli hr hS (fun _ _ h => h) (fun _ h => h) (fun x u t H1 locs1 ht hvm hw hB _ _ hS1 => kk x u H1 locs1 hw (mk_back ht hvm hB).1 (mk_back ht hvm hB).2 hS1)
theorem ms_calll {K : Int64 → ST → Prop} (hr : va_Run p l e R s m args below meth c H locs cells slots mc ms (F0 m pc ls st0) rest (va_Ql K (mw D A) A av) A) (hS : va_S A s.heap H locs)
    (kk : ∀ (x : Int64) (σ1 : ST) (H1 : Heap) (locs1 : List Loc), K x σ1 → mg_H D vwCl A (st_cell σ1) H1 → mk_K D σ1 s → va_S A s.heap H1 locs1 → W p l e R s m args below meth c H1 locs1 (cells + mc) (slots + ms) Q (F0 m (pc + 3) ls (.long x :: rest))) : W p l e R s m args below meth c H locs cells slots Q (F0 m pc ls st0) :=
  va_calll hr hS (fun _ _ h => h) (fun _ h => h) (fun x u t H1 locs1 ht hvm hw hB _ _ hS1 => kk x u H1 locs1 hw (mk_back ht hvm hB).1 (mk_back ht hvm hB).2 hS1)
theorem ms_callv {K : ST → Prop} (hr : va_Run p l e R s m args below meth c H locs cells slots mc ms (F0 m pc ls st0) rest (va_Qv K (mw D A) A av) A) (hS : va_S A s.heap H locs)
    (kk : ∀ (σ1 : ST) (H1 : Heap) (locs1 : List Loc), K σ1 → mg_H D vwCl A (st_cell σ1) H1 → mk_K D σ1 s → va_S A s.heap H1 locs1 → W p l e R s m args below meth c H1 locs1 (cells + mc) (slots + ms) Q (F0 m (pc + 3) ls rest)) : W p l e R s m args below meth c H locs cells slots Q (F0 m pc ls st0) :=
  va_callv hr hS (fun _ _ h => h) (fun _ h => h) (fun u t H1 locs1 ht hvm hw hB _ _ hS1 => kk u H1 locs1 hw (mk_back ht hvm hB).1 (mk_back ht hvm hB).2 hS1)
theorem ms_callq {K : Option Nat → ST → Prop} (hr : va_Run p l e R s m args below meth c H locs cells slots mc ms (F0 m pc ls st0) rest (va_Qq K (mw D A) A av) A) (hS : va_S A s.heap H locs)
    (kk : ∀ (x : Option Nat) (σ1 : ST) (H1 : Heap) (locs1 : List Loc), K x σ1 → mg_H D vwCl A (st_cell σ1) H1 → mk_K D σ1 s → va_S A s.heap H1 locs1 → W p l e R s m args below meth c H1 locs1 (cells + mc) (slots + ms) Q (F0 m (pc + 3) ls (va_rf x :: rest))) : W p l e R s m args below meth c H locs cells slots Q (F0 m pc ls st0) :=
  va_callq hr hS (fun _ _ h => h) (fun _ h => h) (fun x u t H1 locs1 ht hvm hw hB _ _ hS1 => kk x u H1 locs1 hw (mk_back ht hvm hB).1 (mk_back ht hvm hB).2 hS1)
theorem ms_iald (hexec : p.tables.exec = Jvm.exec) (hb : c.code = cc) (hK : mk_K D σ s) (hH : mg_H D vwCl A (st_cell σ) H) (hr : r = some a) {k : Nat} (ht : st_tg σ a = some k) (hty : st_aty k = some (.int)) (he : st_cell σ a = some (.inl (st_cl σ a, st_ln σ a, .inl (st_eI σ a)))) {i : Int32} (hin : vp_in i (st_ln σ a)) (hdg : decode cc pc = .ok (.iaload, 1))
    (kk : W p l e R s m args below meth c H locs cells slots Q (F0 m (pc + 1) ls (.int (st_eI σ a i.toNatClampNeg) :: rest))) : W p l e R s m args below meth c H locs cells slots Q (F0 m pc ls (.int i :: va_rf r :: rest)) := by
  subst hr
  exact mg_iald hexec hb (hK.2 a k _ ht hty) hH he hin hdg kk
theorem ms_lald (hexec : p.tables.exec = Jvm.exec) (hb : c.code = cc) (hK : mk_K D σ s) (hH : mg_H D vwCl A (st_cell σ) H) (hr : r = some a) {k : Nat} (ht : st_tg σ a = some k) (hty : st_aty k = some (.long)) (he : st_cell σ a = some (.inl (st_cl σ a, st_ln σ a, .inr (.inl (st_eJ σ a))))) {i : Int32} (hin : vp_in i (st_ln σ a)) (hdg : decode cc pc = .ok (.laload, 1))
    (kk : W p l e R s m args below meth c H locs cells slots Q (F0 m (pc + 1) ls (.long (st_eJ σ a i.toNatClampNeg) :: rest))) : W p l e R s m args below meth c H locs cells slots Q (F0 m pc ls (.int i :: va_rf r :: rest)) := by
  subst hr
  exact mg_lald hexec hb (hK.2 a k _ ht hty) hH he hin hdg kk
theorem ms_aald (hexec : p.tables.exec = Jvm.exec) (hb : c.code = cc) (hK : mk_K D σ s) (hH : mg_H D vwCl A (st_cell σ) H) (hr : r = some a) {k : Nat} {C : String} (ht : st_tg σ a = some k) (hty : st_aty k = some (.object C)) (he : st_cell σ a = some (.inl (st_cl σ a, st_ln σ a, .inr (.inr (.inr (.inr (st_eR σ a))))))) {i : Int32} (hin : vp_in i (st_ln σ a)) (hdg : decode cc pc = .ok (.aaload, 1))
    (kk : W p l e R s m args below meth c H locs cells slots Q (F0 m (pc + 1) ls (va_rf (st_eR σ a i.toNatClampNeg) :: rest))) : W p l e R s m args below meth c H locs cells slots Q (F0 m pc ls (.int i :: va_rf r :: rest)) := by
  subst hr
  exact mg_aald hexec hb (hK.2 a k _ ht hty) hH he hin hdg kk
theorem ms_iast (hexec : p.tables.exec = Jvm.exec) (hb : c.code = cc) (hK : mk_K D σ s) (hH : mg_H D vwCl A (st_cell σ) H) (hS : va_S A s.heap H locs) (hr : r = some a) {k : Nat} (ht : st_tg σ a = some k) (hty : st_aty k = some (.int)) (he : st_cell σ a = some (.inl (st_cl σ a, st_ln σ a, .inl (st_eI σ a)))) {i : Int32} {x : Int32} (hin : vp_in i (st_ln σ a)) (hdg : decode cc pc = .ok (.iastore, 1)) {σ1 : ST} (hM' : st_cell σ1 = va_up (st_cell σ) a (some (.inl (st_cl σ a, st_ln σ a, .inl (upd (st_eI σ a) i.toNatClampNeg x))))) (h1 : st_tg σ1 = st_tg σ) (h2 : st_cl σ1 = st_cl σ)
    (kk : ∀ (H1 : Heap) (locs1 : List Loc), mg_H D vwCl A (st_cell σ1) H1 → mk_K D σ1 s → va_S A s.heap H1 locs1 → W p l e R s m args below meth c H1 locs1 cells slots Q (F0 m (pc + 1) ls rest)) : W p l e R s m args below meth c H locs cells slots Q (F0 m pc ls (.int x :: .int i :: va_rf r :: rest)) := by
  subst hr
  exact mg_iast hexec hb (hK.2 a k _ ht hty) hH hS he hin hdg hM' (fun H1 locs1 q1 q2 => kk H1 locs1 q1 (hK.of h1 h2) q2)
theorem ms_last (hexec : p.tables.exec = Jvm.exec) (hb : c.code = cc) (hK : mk_K D σ s) (hH : mg_H D vwCl A (st_cell σ) H) (hS : va_S A s.heap H locs) (hr : r = some a) {k : Nat} (ht : st_tg σ a = some k) (hty : st_aty k = some (.long)) (he : st_cell σ a = some (.inl (st_cl σ a, st_ln σ a, .inr (.inl (st_eJ σ a))))) {i : Int32} {x : Int64} (hin : vp_in i (st_ln σ a)) (hdg : decode cc pc = .ok (.lastore, 1)) {σ1 : ST} (hM' : st_cell σ1 = va_up (st_cell σ) a (some (.inl (st_cl σ a, st_ln σ a, .inr (.inl (vp_updL (st_eJ σ a) i.toNatClampNeg x)))))) (h1 : st_tg σ1 = st_tg σ) (h2 : st_cl σ1 = st_cl σ)
    (kk : ∀ (H1 : Heap) (locs1 : List Loc), mg_H D vwCl A (st_cell σ1) H1 → mk_K D σ1 s → va_S A s.heap H1 locs1 → W p l e R s m args below meth c H1 locs1 cells slots Q (F0 m (pc + 1) ls rest)) : W p l e R s m args below meth c H locs cells slots Q (F0 m pc ls (.long x :: .int i :: va_rf r :: rest)) := by
  subst hr
  exact mg_last hexec hb (hK.2 a k _ ht hty) hH hS he hin hdg hM' (fun H1 locs1 q1 q2 => kk H1 locs1 q1 (hK.of h1 h2) q2)
theorem ms_aast (hexec : p.tables.exec = Jvm.exec) (hb : c.code = cc) {w : vw_C} {ci : Nat} (hc : vwCl[ci]? = some w) (hK : mk_K D σ s) (hH : mg_H D vwCl A (st_cell σ) H) (hS : va_S A s.heap H locs) (hr : r = some a) {k : Nat} (ht : st_tg σ a = some k) (hty : st_aty k = some (.object w.1)) (he : st_cell σ a = some (.inl (st_cl σ a, st_ln σ a, .inr (.inr (.inr (.inr (st_eR σ a))))))) {i : Int32} {x : Option Nat} (hv : ∀ y, x = some y → ∃ vs, st_cell σ y = some (.inr (ci, vs))) (hin : vp_in i (st_ln σ a)) (hdg : decode cc pc = .ok (.aastore, 1)) {σ1 : ST} (hM' : st_cell σ1 = va_up (st_cell σ) a (some (.inl (st_cl σ a, st_ln σ a, .inr (.inr (.inr (.inr (va_up (st_eR σ a) i.toNatClampNeg x)))))))) (h1 : st_tg σ1 = st_tg σ) (h2 : st_cl σ1 = st_cl σ)
    (kk : ∀ (H1 : Heap) (locs1 : List Loc), mg_H D vwCl A (st_cell σ1) H1 → mk_K D σ1 s → va_S A s.heap H1 locs1 → W p l e R s m args below meth c H1 locs1 cells slots Q (F0 m (pc + 1) ls rest)) : W p l e R s m args below meth c H locs cells slots Q (F0 m pc ls (va_rf x :: .int i :: va_rf r :: rest)) := by
  subst hr
  exact mg_aast hexec hb hc (hK.2 a k _ ht hty) hH hS he hv hin hdg hM' (fun H1 locs1 q1 q2 => kk H1 locs1 q1 (hK.of h1 h2) q2)
theorem ms_zald (hexec : p.tables.exec = Jvm.exec) (hb : c.code = cc) (hK : mk_K D σ s) (hH : mg_H D vwCl A (st_cell σ) H) (hr : r = some a) {k : Nat} (ht : st_tg σ a = some k) (hty : st_aty k = some (.boolean)) (he : st_cell σ a = some (.inl (st_cl σ a, st_ln σ a, .inl (st_eI σ a)))) {i : Int32} (hin : vp_in i (st_ln σ a)) (hdg : decode cc pc = .ok (.baload, 1))
    (kk : W p l e R s m args below meth c H locs cells slots Q (F0 m (pc + 1) ls (.int (st_eI σ a i.toNatClampNeg) :: rest))) : W p l e R s m args below meth c H locs cells slots Q (F0 m pc ls (.int i :: va_rf r :: rest)) := by
  subst hr
  exact mg_zald hexec hb (hK.2 a k _ ht hty) hH he hin hdg kk
theorem ms_zast (hexec : p.tables.exec = Jvm.exec) (hb : c.code = cc) (hK : mk_K D σ s) (hH : mg_H D vwCl A (st_cell σ) H) (hS : va_S A s.heap H locs) (hr : r = some a) {k : Nat} (ht : st_tg σ a = some k) (hty : st_aty k = some (.boolean)) (he : st_cell σ a = some (.inl (st_cl σ a, st_ln σ a, .inl (st_eI σ a)))) {i : Int32} {x : Int32} (hv : x = 0 ∨ x = 1) (hin : vp_in i (st_ln σ a)) (hdg : decode cc pc = .ok (.bastore, 1)) {σ1 : ST} (hM' : st_cell σ1 = va_up (st_cell σ) a (some (.inl (st_cl σ a, st_ln σ a, .inl (upd (st_eI σ a) i.toNatClampNeg x))))) (h1 : st_tg σ1 = st_tg σ) (h2 : st_cl σ1 = st_cl σ)
    (kk : ∀ (H1 : Heap) (locs1 : List Loc), mg_H D vwCl A (st_cell σ1) H1 → mk_K D σ1 s → va_S A s.heap H1 locs1 → W p l e R s m args below meth c H1 locs1 cells slots Q (F0 m (pc + 1) ls rest)) : W p l e R s m args below meth c H locs cells slots Q (F0 m pc ls (.int x :: .int i :: va_rf r :: rest)) := by
  subst hr
  exact mg_zast hexec hb (hK.2 a k _ ht hty) hH hS he hv hin hdg hM' (fun H1 locs1 q1 q2 => kk H1 locs1 q1 (hK.of h1 h2) q2)
theorem ms_alen (hexec : p.tables.exec = Jvm.exec) (hb : c.code = cc) (hK : mk_K D σ s) (hH : mg_H D vwCl A (st_cell σ) H) (hr : r = some a) {k : Nat} {ty : FieldType} (ht : st_tg σ a = some k) (hty : st_aty k = some ty) {y : (Nat → Int32) ⊕ (Nat → Int64) ⊕ (Nat → UInt32) ⊕ (Nat → UInt64) ⊕ (Nat → Option Nat)} (he : st_cell σ a = some (.inl (st_cl σ a, st_ln σ a, y))) (hdg : decode cc pc = .ok (.arraylength, 1))
    (kk : W p l e R s m args below meth c H locs cells slots Q (F0 m (pc + 1) ls (.int (nI (st_ln σ a)) :: rest))) : W p l e R s m args below meth c H locs cells slots Q (F0 m pc ls (va_rf r :: rest)) := by
  subst hr
  exact mg_alen hexec hb (hK.2 a k _ ht hty) hH he rfl hdg kk
theorem st_none {σ : ST} {q : Nat} (h : st_cell σ q = none) : st_tg σ q = none := by
  unfold st_cell at h
  cases hz : st_tg σ q with
  | none => rfl
  | some k => rw [hz] at h; cases h
theorem ms_new (hexec : p.tables.exec = Jvm.exec) (hb : c.code = cc) {own C : String} {T : u_T} {N ci index : Nat} {Ts : List Cond} (hts : ∀ w ∈ Ts, w.before args s = true) (hin : ∀ w ∈ u_ws C T N, w ∈ Ts) (ty : Nat → FieldType) (hty : ∀ k, k < N → parseFieldDescriptor (T k).2.2.1 = some (ty k)) (hown : s.vm.findClass own = some m.cls) (hcl : (Cond.classLink own index C).before args s = true) (hinst : (Cond.instantiable C N).before args s = true) (hini : (Cond.initialized C).before args s = true)
    (hK : mk_K D σ s) (hH : mg_H D vwCl A (st_cell σ) H) (hS : va_S A s.heap H locs) (hA : ∀ q, s.heap.size ≤ q → A q) (hc : vwCl[ci]? = some (C, T, N)) {fs : List Value} (hfs : ∀ j, j < N → defaultValue (ty j) = vp_V fs j) (hcells : cells + 1 ≤ R.cells) (hslots : slots + N ≤ R.slots) (hdg : decode cc pc = .ok (.new index, 3)) (hno : st_aty ci = none) (hM' : ∀ q, st_tg σ q = none → st_cell (st_new σ q ci) = va_up (st_cell σ) q (some (.inr (ci, fs))))
    (kk : ∀ (q : Nat) (H1 : Heap), st_tg σ q = none → mg_H D vwCl A (st_cell (st_new σ q ci)) H1 → mk_K D (st_new σ q ci) s → va_S A s.heap H1 locs → W p l e R s m args below meth c H1 locs (cells + 1) (slots + N) Q (F0 m (pc + 3) ls (va_rf (some q) :: rest))) : W p l e R s m args below meth c H locs cells slots Q (F0 m pc ls rest) := by
  refine mg_new hexec hb hts hin ty hty hown hcl hinst hini hK.1 hH hS hA hc hfs hcells hslots hdg (fun q H1 q1 q2 q3 => ?_)
  have hq := st_none q1
  refine kk q H1 hq (by rw [hM' q hq]; exact q2) ⟨hK.1, fun a k ty h1 h2 => ?_⟩ q3
  rw [g_tg_new] at h1
  by_cases z : a = q
  · rw [if_pos z] at h1
    cases h1
    rw [hno] at h2
    cases h2
  · rw [if_neg z] at h1
    exact hK.2 a k ty h1 h2
theorem mk_arr {q k : Nat} {cA : ClassId} {n : Nat} {ty : FieldType} (hK : mk_K D σ s) (hty : st_aty k = some ty) (h : va_K D vwCl [(cA, ty)] s) : mk_K D (st_arr σ q k cA n) s := by
  refine ⟨hK.1, fun a k1 ty1 h1 h2 => ?_⟩
  rw [g_tg_arr] at h1
  rw [g_cl_arr]
  by_cases z : a = q
  · rw [if_pos z] at h1
    cases h1
    rw [hty] at h2
    cases h2
    rw [if_pos z]
    exact h
  · rw [if_neg z] at h1
    rw [if_neg z]
    exact hK.2 a k1 ty1 h1 h2
theorem ms_newa (hexec : p.tables.exec = Jvm.exec) (hb : c.code = cc) {atype : ArrayType} (harr : (Cond.arrayClass (newarray.typeOf atype)).before args s = true) {ty : FieldType} (hty : newarray.typeOf atype = ty) (hK : mk_K D σ s) (hH : mg_H D vwCl A (st_cell σ) H) (hS : va_S A s.heap H locs) (hA : ∀ q, s.heap.size ≤ q → A q) (k : Nat) (hk : st_aty k = some ty)
    {n : Int32} {N' : Nat} {y : (Nat → Int32) ⊕ (Nat → Int64) ⊕ (Nat → UInt32) ⊕ (Nat → UInt64) ⊕ (Nat → Option Nat)} (ha : ∀ cA : ClassId, vp_cell cA (N', y) = arrV cA N' (fun _ => defaultValue ty)) (hn : ¬ n < 0) (hN : n.toNatClampNeg = N') (hbytes : N' * componentBytes ty ≤ 536870912) (hcells : cells + 1 ≤ R.cells) (hslots : slots + N' ≤ R.slots) (hdg : decode cc pc = .ok (.newarray atype, 2)) (hM' : ∀ q cA, st_tg σ q = none → st_cell (st_arr σ q k cA N') = va_up (st_cell σ) q (some (.inl (cA, N', y))))
    (kk : ∀ (q : Nat) (cA : ClassId) (H1 : Heap), st_tg σ q = none → mg_H D vwCl A (st_cell (st_arr σ q k cA N')) H1 → mk_K D (st_arr σ q k cA N') s → va_S A s.heap H1 locs → W p l e R s m args below meth c H1 locs (cells + 1) (slots + N') Q (F0 m (pc + 2) ls (va_rf (some q) :: rest))) : W p l e R s m args below meth c H locs cells slots Q (F0 m pc ls (.int n :: rest)) := by
  refine mg_newa hexec hb harr hty hK.1 hH hS hA ha hn hN hbytes hcells hslots hdg (fun q cA H1 q1 hKa q2 q3 => ?_)
  have hq := st_none q1
  exact kk q cA H1 hq (by rw [hM' q cA hq]; exact q2) (mk_arr hK hk hKa) q3
theorem ms_newq (hexec : p.tables.exec = Jvm.exec) (hb : c.code = cc) {own C : String} {index : Nat} (hown : s.vm.findClass own = some m.cls) (hclink : (Cond.classLink own index C).before args s = true) (hover : va_AO C s) (hK : mk_K D σ s) (hH : mg_H D vwCl A (st_cell σ) H) (hS : va_S A s.heap H locs) (hA : ∀ q, s.heap.size ≤ q → A q) (k : Nat) (hk : st_aty k = some (.object C))
    {n : Int32} {N' : Nat} (hn : ¬ n < 0) (hN : n.toNatClampNeg = N') (hbytes : N' * 4 ≤ 536870912) (hcells : cells + 1 ≤ R.cells) (hslots : slots + N' ≤ R.slots) (hdg : decode cc pc = .ok (.anewarray index, 3)) (hM' : ∀ q cA, st_tg σ q = none → st_cell (st_arr σ q k cA N') = va_up (st_cell σ) q (some (.inl (cA, N', .inr (.inr (.inr (.inr (fun _ => none))))))))
    (kk : ∀ (q : Nat) (cA : ClassId) (H1 : Heap), st_tg σ q = none → mg_H D vwCl A (st_cell (st_arr σ q k cA N')) H1 → mk_K D (st_arr σ q k cA N') s → va_S A s.heap H1 locs → W p l e R s m args below meth c H1 locs (cells + 1) (slots + N') Q (F0 m (pc + 3) ls (va_rf (some q) :: rest))) : W p l e R s m args below meth c H locs cells slots Q (F0 m pc ls (.int n :: rest)) := by
  refine mg_newq hexec hb hown hclink hover hK.1 hH hS hA hn hN hbytes hcells hslots hdg (fun q cA H1 q1 hKa q2 q3 => ?_)
  have hq := st_none q1
  exact kk q cA H1 hq (by rw [hM' q cA hq]; exact q2) (mk_arr hK hk hKa) q3
end MSR
end
section
theorem d_Office_init_0 : decode c_Office_init 0 = .ok (.aload_n 0, 1) := by decide +kernel
theorem d_Office_init_1 : decode c_Office_init 1 = .ok (.invokespecial 3, 3) := by decide +kernel
theorem d_Office_init_4 : decode c_Office_init 4 = .ok (.aload_n 0, 1) := by decide +kernel
theorem d_Office_init_5 : decode c_Office_init 5 = .ok (.ldc2_w 9, 3) := by decide +kernel
theorem d_Office_init_8 : decode c_Office_init 8 = .ok (.putfield 11, 3) := by decide +kernel
theorem d_Office_init_11 : decode c_Office_init 11 = .ok (.aload_n 0, 1) := by decide +kernel
theorem d_Office_init_12 : decode c_Office_init 12 = .ok (.ldc2_w 9, 3) := by decide +kernel
theorem d_Office_init_15 : decode c_Office_init 15 = .ok (.putfield 17, 3) := by decide +kernel
theorem d_Office_init_18 : decode c_Office_init 18 = .ok (.aload_n 0, 1) := by decide +kernel
theorem d_Office_init_19 : decode c_Office_init 19 = .ok (.iload_n 1, 1) := by decide +kernel
theorem d_Office_init_20 : decode c_Office_init 20 = .ok (.putfield 20, 3) := by decide +kernel
theorem d_Office_init_23 : decode c_Office_init 23 = .ok (.return_, 1) := by decide +kernel
theorem d_Currency_init_0 : decode c_Currency_init 0 = .ok (.aload_n 0, 1) := by decide +kernel
theorem d_Currency_init_1 : decode c_Currency_init 1 = .ok (.invokespecial 3, 3) := by decide +kernel
theorem d_Currency_init_4 : decode c_Currency_init 4 = .ok (.aload_n 0, 1) := by decide +kernel
theorem d_Currency_init_5 : decode c_Currency_init 5 = .ok (.ldc2_w 9, 3) := by decide +kernel
theorem d_Currency_init_8 : decode c_Currency_init 8 = .ok (.putfield 11, 3) := by decide +kernel
theorem d_Currency_init_11 : decode c_Currency_init 11 = .ok (.return_, 1) := by decide +kernel
theorem d_X_init_0 : decode c_X_init 0 = .ok (.aload_n 0, 1) := by decide +kernel
theorem d_X_init_1 : decode c_X_init 1 = .ok (.invokespecial 1, 3) := by decide +kernel
theorem d_X_init_4 : decode c_X_init 4 = .ok (.aload_n 0, 1) := by decide +kernel
theorem d_X_init_5 : decode c_X_init 5 = .ok (.bipush 8, 2) := by decide +kernel
theorem d_X_init_7 : decode c_X_init 7 = .ok (.anewarray 9, 3) := by decide +kernel
theorem d_X_init_10 : decode c_X_init 10 = .ok (.putfield 11, 3) := by decide +kernel
theorem d_X_init_13 : decode c_X_init 13 = .ok (.aload_n 0, 1) := by decide +kernel
theorem d_X_init_14 : decode c_X_init 14 = .ok (.iconst 4, 1) := by decide +kernel
theorem d_X_init_15 : decode c_X_init 15 = .ok (.anewarray 15, 3) := by decide +kernel
theorem d_X_init_18 : decode c_X_init 18 = .ok (.putfield 17, 3) := by decide +kernel
theorem d_X_init_21 : decode c_X_init 21 = .ok (.aload_n 0, 1) := by decide +kernel
theorem d_X_init_22 : decode c_X_init 22 = .ok (.sipush 300, 3) := by decide +kernel
theorem d_X_init_25 : decode c_X_init 25 = .ok (.anewarray 21, 3) := by decide +kernel
theorem d_X_init_28 : decode c_X_init 28 = .ok (.putfield 23, 3) := by decide +kernel
theorem d_X_init_31 : decode c_X_init 31 = .ok (.aload_n 0, 1) := by decide +kernel
theorem d_X_init_32 : decode c_X_init 32 = .ok (.bipush 100, 2) := by decide +kernel
theorem d_X_init_34 : decode c_X_init 34 = .ok (.anewarray 27, 3) := by decide +kernel
theorem d_X_init_37 : decode c_X_init 37 = .ok (.putfield 29, 3) := by decide +kernel
theorem d_X_init_40 : decode c_X_init 40 = .ok (.aload_n 0, 1) := by decide +kernel
theorem d_X_init_41 : decode c_X_init 41 = .ok (.bipush 100, 2) := by decide +kernel
theorem d_X_init_43 : decode c_X_init 43 = .ok (.anewarray 33, 3) := by decide +kernel
theorem d_X_init_46 : decode c_X_init 46 = .ok (.putfield 35, 3) := by decide +kernel
theorem d_X_init_49 : decode c_X_init 49 = .ok (.aload_n 0, 1) := by decide +kernel
theorem d_X_init_50 : decode c_X_init 50 = .ok (.bipush 9, 2) := by decide +kernel
theorem d_X_init_52 : decode c_X_init 52 = .ok (.newarray .long, 2) := by decide +kernel
theorem d_X_init_54 : decode c_X_init 54 = .ok (.putfield 39, 3) := by decide +kernel
theorem d_X_init_57 : decode c_X_init 57 = .ok (.iconst 0, 1) := by decide +kernel
theorem d_X_init_58 : decode c_X_init 58 = .ok (.istore_n 1, 1) := by decide +kernel
theorem d_X_init_59 : decode c_X_init 59 = .ok (.iload_n 1, 1) := by decide +kernel
theorem d_X_init_60 : decode c_X_init 60 = .ok (.bipush 8, 2) := by decide +kernel
theorem d_X_init_62 : decode c_X_init 62 = .ok (.if_icmp .ge 23, 3) := by decide +kernel
theorem d_X_init_65 : decode c_X_init 65 = .ok (.aload_n 0, 1) := by decide +kernel
theorem d_X_init_66 : decode c_X_init 66 = .ok (.getfield 11, 3) := by decide +kernel
theorem d_X_init_69 : decode c_X_init 69 = .ok (.iload_n 1, 1) := by decide +kernel
theorem d_X_init_70 : decode c_X_init 70 = .ok (.new 9, 3) := by decide +kernel
theorem d_X_init_73 : decode c_X_init 73 = .ok (.dup, 1) := by decide +kernel
theorem d_X_init_74 : decode c_X_init 74 = .ok (.iload_n 1, 1) := by decide +kernel
theorem d_X_init_75 : decode c_X_init 75 = .ok (.invokespecial 43, 3) := by decide +kernel
theorem d_X_init_78 : decode c_X_init 78 = .ok (.aastore, 1) := by decide +kernel
theorem d_X_init_79 : decode c_X_init 79 = .ok (.iinc 1 1, 3) := by decide +kernel
theorem d_X_init_82 : decode c_X_init 82 = .ok (.goto (-23), 3) := by decide +kernel
theorem d_X_init_85 : decode c_X_init 85 = .ok (.iconst 0, 1) := by decide +kernel
theorem d_X_init_86 : decode c_X_init 86 = .ok (.istore_n 1, 1) := by decide +kernel
theorem d_X_init_87 : decode c_X_init 87 = .ok (.iload_n 1, 1) := by decide +kernel
theorem d_X_init_88 : decode c_X_init 88 = .ok (.iconst 4, 1) := by decide +kernel
theorem d_X_init_89 : decode c_X_init 89 = .ok (.if_icmp .ge 22, 3) := by decide +kernel
theorem d_X_init_92 : decode c_X_init 92 = .ok (.aload_n 0, 1) := by decide +kernel
theorem d_X_init_93 : decode c_X_init 93 = .ok (.getfield 17, 3) := by decide +kernel
theorem d_X_init_96 : decode c_X_init 96 = .ok (.iload_n 1, 1) := by decide +kernel
theorem d_X_init_97 : decode c_X_init 97 = .ok (.new 15, 3) := by decide +kernel
theorem d_X_init_100 : decode c_X_init 100 = .ok (.dup, 1) := by decide +kernel
theorem d_X_init_101 : decode c_X_init 101 = .ok (.invokespecial 46, 3) := by decide +kernel
theorem d_X_init_104 : decode c_X_init 104 = .ok (.aastore, 1) := by decide +kernel
theorem d_X_init_105 : decode c_X_init 105 = .ok (.iinc 1 1, 3) := by decide +kernel
theorem d_X_init_108 : decode c_X_init 108 = .ok (.goto (-21), 3) := by decide +kernel
theorem d_X_init_111 : decode c_X_init 111 = .ok (.return_, 1) := by decide +kernel
theorem d_X_officeAt_0 : decode c_X_officeAt 0 = .ok (.iload_n 1, 1) := by decide +kernel
theorem d_X_officeAt_1 : decode c_X_officeAt 1 = .ok (.ifCond .lt 9, 3) := by decide +kernel
theorem d_X_officeAt_4 : decode c_X_officeAt 4 = .ok (.iload_n 1, 1) := by decide +kernel
theorem d_X_officeAt_5 : decode c_X_officeAt 5 = .ok (.bipush 8, 2) := by decide +kernel
theorem d_X_officeAt_7 : decode c_X_officeAt 7 = .ok (.if_icmp .lt 7, 3) := by decide +kernel
theorem d_X_officeAt_10 : decode c_X_officeAt 10 = .ok (.aconst_null, 1) := by decide +kernel
theorem d_X_officeAt_11 : decode c_X_officeAt 11 = .ok (.goto 9, 3) := by decide +kernel
theorem d_X_officeAt_14 : decode c_X_officeAt 14 = .ok (.aload_n 0, 1) := by decide +kernel
theorem d_X_officeAt_15 : decode c_X_officeAt 15 = .ok (.getfield 11, 3) := by decide +kernel
theorem d_X_officeAt_18 : decode c_X_officeAt 18 = .ok (.iload_n 1, 1) := by decide +kernel
theorem d_X_officeAt_19 : decode c_X_officeAt 19 = .ok (.aaload, 1) := by decide +kernel
theorem d_X_officeAt_20 : decode c_X_officeAt 20 = .ok (.areturn, 1) := by decide +kernel
theorem d_X_currencyAt_0 : decode c_X_currencyAt 0 = .ok (.iload_n 1, 1) := by decide +kernel
theorem d_X_currencyAt_1 : decode c_X_currencyAt 1 = .ok (.ifCond .lt 8, 3) := by decide +kernel
theorem d_X_currencyAt_4 : decode c_X_currencyAt 4 = .ok (.iload_n 1, 1) := by decide +kernel
theorem d_X_currencyAt_5 : decode c_X_currencyAt 5 = .ok (.iconst 4, 1) := by decide +kernel
theorem d_X_currencyAt_6 : decode c_X_currencyAt 6 = .ok (.if_icmp .lt 7, 3) := by decide +kernel
theorem d_X_currencyAt_9 : decode c_X_currencyAt 9 = .ok (.aconst_null, 1) := by decide +kernel
theorem d_X_currencyAt_10 : decode c_X_currencyAt 10 = .ok (.goto 9, 3) := by decide +kernel
theorem d_X_currencyAt_13 : decode c_X_currencyAt 13 = .ok (.aload_n 0, 1) := by decide +kernel
theorem d_X_currencyAt_14 : decode c_X_currencyAt 14 = .ok (.getfield 17, 3) := by decide +kernel
theorem d_X_currencyAt_17 : decode c_X_currencyAt 17 = .ok (.iload_n 1, 1) := by decide +kernel
theorem d_X_currencyAt_18 : decode c_X_currencyAt 18 = .ok (.aaload, 1) := by decide +kernel
theorem d_X_currencyAt_19 : decode c_X_currencyAt 19 = .ok (.areturn, 1) := by decide +kernel
theorem d_X_isOrderable_0 : decode c_X_isOrderable 0 = .ok (.lload_n 0, 1) := by decide +kernel
theorem d_X_isOrderable_1 : decode c_X_isOrderable 1 = .ok (.lconst 1, 1) := by decide +kernel
theorem d_X_isOrderable_2 : decode c_X_isOrderable 2 = .ok (.lcmp, 1) := by decide +kernel
theorem d_X_isOrderable_3 : decode c_X_isOrderable 3 = .ok (.ifCond .lt 15, 3) := by decide +kernel
theorem d_X_isOrderable_6 : decode c_X_isOrderable 6 = .ok (.lload_n 0, 1) := by decide +kernel
theorem d_X_isOrderable_7 : decode c_X_isOrderable 7 = .ok (.ldc2_w 212, 3) := by decide +kernel
theorem d_X_isOrderable_10 : decode c_X_isOrderable 10 = .ok (.lcmp, 1) := by decide +kernel
theorem d_X_isOrderable_11 : decode c_X_isOrderable 11 = .ok (.ifCond .gt 7, 3) := by decide +kernel
theorem d_X_isOrderable_14 : decode c_X_isOrderable 14 = .ok (.iconst 1, 1) := by decide +kernel
theorem d_X_isOrderable_15 : decode c_X_isOrderable 15 = .ok (.goto 4, 3) := by decide +kernel
theorem d_X_isOrderable_18 : decode c_X_isOrderable 18 = .ok (.iconst 0, 1) := by decide +kernel
theorem d_X_isOrderable_19 : decode c_X_isOrderable 19 = .ok (.ireturn, 1) := by decide +kernel
theorem d_X_numberOf_0 : decode c_X_numberOf 0 = .ok (.iconst 0, 1) := by decide +kernel
theorem d_X_numberOf_1 : decode c_X_numberOf 1 = .ok (.istore_n 1, 1) := by decide +kernel
theorem d_X_numberOf_2 : decode c_X_numberOf 2 = .ok (.iload_n 0, 1) := by decide +kernel
theorem d_X_numberOf_3 : decode c_X_numberOf 3 = .ok (.istore_n 2, 1) := by decide +kernel
theorem d_X_numberOf_4 : decode c_X_numberOf 4 = .ok (.iconst 0, 1) := by decide +kernel
theorem d_X_numberOf_5 : decode c_X_numberOf 5 = .ok (.istore_n 3, 1) := by decide +kernel
theorem d_X_numberOf_6 : decode c_X_numberOf 6 = .ok (.iload_n 3, 1) := by decide +kernel
theorem d_X_numberOf_7 : decode c_X_numberOf 7 = .ok (.bipush 10, 2) := by decide +kernel
theorem d_X_numberOf_9 : decode c_X_numberOf 9 = .ok (.if_icmp .ge 28, 3) := by decide +kernel
theorem d_X_numberOf_12 : decode c_X_numberOf 12 = .ok (.iload_n 1, 1) := by decide +kernel
theorem d_X_numberOf_13 : decode c_X_numberOf 13 = .ok (.iload_n 2, 1) := by decide +kernel
theorem d_X_numberOf_14 : decode c_X_numberOf 14 = .ok (.bipush 10, 2) := by decide +kernel
theorem d_X_numberOf_16 : decode c_X_numberOf 16 = .ok (.irem, 1) := by decide +kernel
theorem d_X_numberOf_17 : decode c_X_numberOf 17 = .ok (.iconst 2, 1) := by decide +kernel
theorem d_X_numberOf_18 : decode c_X_numberOf 18 = .ok (.iload_n 3, 1) := by decide +kernel
theorem d_X_numberOf_19 : decode c_X_numberOf 19 = .ok (.bipush 6, 2) := by decide +kernel
theorem d_X_numberOf_21 : decode c_X_numberOf 21 = .ok (.irem, 1) := by decide +kernel
theorem d_X_numberOf_22 : decode c_X_numberOf 22 = .ok (.iadd, 1) := by decide +kernel
theorem d_X_numberOf_23 : decode c_X_numberOf 23 = .ok (.imul, 1) := by decide +kernel
theorem d_X_numberOf_24 : decode c_X_numberOf 24 = .ok (.iadd, 1) := by decide +kernel
theorem d_X_numberOf_25 : decode c_X_numberOf 25 = .ok (.istore_n 1, 1) := by decide +kernel
theorem d_X_numberOf_26 : decode c_X_numberOf 26 = .ok (.iload_n 2, 1) := by decide +kernel
theorem d_X_numberOf_27 : decode c_X_numberOf 27 = .ok (.bipush 10, 2) := by decide +kernel
theorem d_X_numberOf_29 : decode c_X_numberOf 29 = .ok (.idiv, 1) := by decide +kernel
theorem d_X_numberOf_30 : decode c_X_numberOf 30 = .ok (.istore_n 2, 1) := by decide +kernel
theorem d_X_numberOf_31 : decode c_X_numberOf 31 = .ok (.iinc 3 1, 3) := by decide +kernel
theorem d_X_numberOf_34 : decode c_X_numberOf 34 = .ok (.goto (-28), 3) := by decide +kernel
theorem d_X_numberOf_37 : decode c_X_numberOf 37 = .ok (.bipush 10, 2) := by decide +kernel
theorem d_X_numberOf_39 : decode c_X_numberOf 39 = .ok (.iload_n 0, 1) := by decide +kernel
theorem d_X_numberOf_40 : decode c_X_numberOf 40 = .ok (.imul, 1) := by decide +kernel
theorem d_X_numberOf_41 : decode c_X_numberOf 41 = .ok (.iload_n 1, 1) := by decide +kernel
theorem d_X_numberOf_42 : decode c_X_numberOf 42 = .ok (.bipush 10, 2) := by decide +kernel
theorem d_X_numberOf_44 : decode c_X_numberOf 44 = .ok (.irem, 1) := by decide +kernel
theorem d_X_numberOf_45 : decode c_X_numberOf 45 = .ok (.iadd, 1) := by decide +kernel
theorem d_X_numberOf_46 : decode c_X_numberOf 46 = .ok (.ireturn, 1) := by decide +kernel
theorem d_Order_init_0 : decode c_Order_init 0 = .ok (.aload_n 0, 1) := by decide +kernel
theorem d_Order_init_1 : decode c_Order_init 1 = .ok (.invokespecial 3, 3) := by decide +kernel
theorem d_Order_init_4 : decode c_Order_init 4 = .ok (.aload_n 0, 1) := by decide +kernel
theorem d_Order_init_5 : decode c_Order_init 5 = .ok (.iconst 0, 1) := by decide +kernel
theorem d_Order_init_6 : decode c_Order_init 6 = .ok (.putfield 9, 3) := by decide +kernel
theorem d_Order_init_9 : decode c_Order_init 9 = .ok (.aload_n 0, 1) := by decide +kernel
theorem d_Order_init_10 : decode c_Order_init 10 = .ok (.ldc2_w 15, 3) := by decide +kernel
theorem d_Order_init_13 : decode c_Order_init 13 = .ok (.putfield 17, 3) := by decide +kernel
theorem d_Order_init_16 : decode c_Order_init 16 = .ok (.aload_n 0, 1) := by decide +kernel
theorem d_Order_init_17 : decode c_Order_init 17 = .ok (.iload_n 1, 1) := by decide +kernel
theorem d_Order_init_18 : decode c_Order_init 18 = .ok (.putfield 21, 3) := by decide +kernel
theorem d_Order_init_21 : decode c_Order_init 21 = .ok (.aload_n 0, 1) := by decide +kernel
theorem d_Order_init_22 : decode c_Order_init 22 = .ok (.aload_n 2, 1) := by decide +kernel
theorem d_Order_init_23 : decode c_Order_init 23 = .ok (.putfield 24, 3) := by decide +kernel
theorem d_Order_init_26 : decode c_Order_init 26 = .ok (.aload_n 0, 1) := by decide +kernel
theorem d_Order_init_27 : decode c_Order_init 27 = .ok (.lload_n 3, 1) := by decide +kernel
theorem d_Order_init_28 : decode c_Order_init 28 = .ok (.putfield 28, 3) := by decide +kernel
theorem d_Order_init_31 : decode c_Order_init 31 = .ok (.aload_n 0, 1) := by decide +kernel
theorem d_Order_init_32 : decode c_Order_init 32 = .ok (.lload 5, 2) := by decide +kernel
theorem d_Order_init_34 : decode c_Order_init 34 = .ok (.putfield 31, 3) := by decide +kernel
theorem d_Order_init_37 : decode c_Order_init 37 = .ok (.aload_n 0, 1) := by decide +kernel
theorem d_Order_init_38 : decode c_Order_init 38 = .ok (.aload 7, 2) := by decide +kernel
theorem d_Order_init_40 : decode c_Order_init 40 = .ok (.putfield 34, 3) := by decide +kernel
theorem d_Order_init_43 : decode c_Order_init 43 = .ok (.aload_n 0, 1) := by decide +kernel
theorem d_Order_init_44 : decode c_Order_init 44 = .ok (.iload 8, 2) := by decide +kernel
theorem d_Order_init_46 : decode c_Order_init 46 = .ok (.putfield 38, 3) := by decide +kernel
theorem d_Order_init_49 : decode c_Order_init 49 = .ok (.return_, 1) := by decide +kernel
theorem d_X_addOrder_0 : decode c_X_addOrder 0 = .ok (.aload_n 0, 1) := by decide +kernel
theorem d_X_addOrder_1 : decode c_X_addOrder 1 = .ok (.getfield 59, 3) := by decide +kernel
theorem d_X_addOrder_4 : decode c_X_addOrder 4 = .ok (.iconst 1, 1) := by decide +kernel
theorem d_X_addOrder_5 : decode c_X_addOrder 5 = .ok (.iadd, 1) := by decide +kernel
theorem d_X_addOrder_6 : decode c_X_addOrder 6 = .ok (.invokestatic 218, 3) := by decide +kernel
theorem d_X_addOrder_9 : decode c_X_addOrder 9 = .ok (.istore 8, 2) := by decide +kernel
theorem d_X_addOrder_11 : decode c_X_addOrder 11 = .ok (.aload_n 0, 1) := by decide +kernel
theorem d_X_addOrder_12 : decode c_X_addOrder 12 = .ok (.getfield 23, 3) := by decide +kernel
theorem d_X_addOrder_15 : decode c_X_addOrder 15 = .ok (.aload_n 0, 1) := by decide +kernel
theorem d_X_addOrder_16 : decode c_X_addOrder 16 = .ok (.getfield 59, 3) := by decide +kernel
theorem d_X_addOrder_19 : decode c_X_addOrder 19 = .ok (.new 21, 3) := by decide +kernel
theorem d_X_addOrder_22 : decode c_X_addOrder 22 = .ok (.dup, 1) := by decide +kernel
theorem d_X_addOrder_23 : decode c_X_addOrder 23 = .ok (.iload 8, 2) := by decide +kernel
theorem d_X_addOrder_25 : decode c_X_addOrder 25 = .ok (.aload_n 1, 1) := by decide +kernel
theorem d_X_addOrder_26 : decode c_X_addOrder 26 = .ok (.lload_n 2, 1) := by decide +kernel
theorem d_X_addOrder_27 : decode c_X_addOrder 27 = .ok (.lload 4, 2) := by decide +kernel
theorem d_X_addOrder_29 : decode c_X_addOrder 29 = .ok (.aload 6, 2) := by decide +kernel
theorem d_X_addOrder_31 : decode c_X_addOrder 31 = .ok (.iload 7, 2) := by decide +kernel
theorem d_X_addOrder_33 : decode c_X_addOrder 33 = .ok (.invokespecial 222, 3) := by decide +kernel
theorem d_X_addOrder_36 : decode c_X_addOrder 36 = .ok (.aastore, 1) := by decide +kernel
theorem d_X_addOrder_37 : decode c_X_addOrder 37 = .ok (.aload_n 0, 1) := by decide +kernel
theorem d_X_addOrder_38 : decode c_X_addOrder 38 = .ok (.dup, 1) := by decide +kernel
theorem d_X_addOrder_39 : decode c_X_addOrder 39 = .ok (.getfield 59, 3) := by decide +kernel
theorem d_X_addOrder_42 : decode c_X_addOrder 42 = .ok (.iconst 1, 1) := by decide +kernel
theorem d_X_addOrder_43 : decode c_X_addOrder 43 = .ok (.iadd, 1) := by decide +kernel
theorem d_X_addOrder_44 : decode c_X_addOrder 44 = .ok (.putfield 59, 3) := by decide +kernel
theorem d_X_addOrder_47 : decode c_X_addOrder 47 = .ok (.iload 8, 2) := by decide +kernel
theorem d_X_addOrder_49 : decode c_X_addOrder 49 = .ok (.ireturn, 1) := by decide +kernel
theorem d_X_order_0 : decode c_X_order 0 = .ok (.aload_n 0, 1) := by decide +kernel
theorem d_X_order_1 : decode c_X_order 1 = .ok (.iload_n 1, 1) := by decide +kernel
theorem d_X_order_2 : decode c_X_order 2 = .ok (.invokevirtual 47, 3) := by decide +kernel
theorem d_X_order_5 : decode c_X_order 5 = .ok (.astore 8, 2) := by decide +kernel
theorem d_X_order_7 : decode c_X_order 7 = .ok (.aload_n 0, 1) := by decide +kernel
theorem d_X_order_8 : decode c_X_order 8 = .ok (.iload 6, 2) := by decide +kernel
theorem d_X_order_10 : decode c_X_order 10 = .ok (.invokevirtual 51, 3) := by decide +kernel
theorem d_X_order_13 : decode c_X_order 13 = .ok (.astore 9, 2) := by decide +kernel
theorem d_X_order_15 : decode c_X_order 15 = .ok (.aload 8, 2) := by decide +kernel
theorem d_X_order_17 : decode c_X_order 17 = .ok (.ifnull 27, 3) := by decide +kernel
theorem d_X_order_20 : decode c_X_order 20 = .ok (.aload 9, 2) := by decide +kernel
theorem d_X_order_22 : decode c_X_order 22 = .ok (.ifnull 22, 3) := by decide +kernel
theorem d_X_order_25 : decode c_X_order 25 = .ok (.lload_n 2, 1) := by decide +kernel
theorem d_X_order_26 : decode c_X_order 26 = .ok (.invokestatic 55, 3) := by decide +kernel
theorem d_X_order_29 : decode c_X_order 29 = .ok (.ifCond .eq 15, 3) := by decide +kernel
theorem d_X_order_32 : decode c_X_order 32 = .ok (.lload 4, 2) := by decide +kernel
theorem d_X_order_34 : decode c_X_order 34 = .ok (.lconst 0, 1) := by decide +kernel
theorem d_X_order_35 : decode c_X_order 35 = .ok (.lcmp, 1) := by decide +kernel
theorem d_X_order_36 : decode c_X_order 36 = .ok (.ifCond .lt 8, 3) := by decide +kernel
theorem d_X_order_39 : decode c_X_order 39 = .ok (.iload 7, 2) := by decide +kernel
theorem d_X_order_41 : decode c_X_order 41 = .ok (.ifCond .ge 6, 3) := by decide +kernel
theorem d_X_order_44 : decode c_X_order 44 = .ok (.bipush (-102), 2) := by decide +kernel
theorem d_X_order_46 : decode c_X_order 46 = .ok (.ireturn, 1) := by decide +kernel
theorem d_X_order_47 : decode c_X_order 47 = .ok (.aload_n 0, 1) := by decide +kernel
theorem d_X_order_48 : decode c_X_order 48 = .ok (.getfield 59, 3) := by decide +kernel
theorem d_X_order_51 : decode c_X_order 51 = .ok (.sipush 300, 3) := by decide +kernel
theorem d_X_order_54 : decode c_X_order 54 = .ok (.if_icmp .lt 6, 3) := by decide +kernel
theorem d_X_order_57 : decode c_X_order 57 = .ok (.bipush (-104), 2) := by decide +kernel
theorem d_X_order_59 : decode c_X_order 59 = .ok (.ireturn, 1) := by decide +kernel
theorem d_X_order_60 : decode c_X_order 60 = .ok (.aload 8, 2) := by decide +kernel
theorem d_X_order_62 : decode c_X_order 62 = .ok (.dup, 1) := by decide +kernel
theorem d_X_order_63 : decode c_X_order 63 = .ok (.getfield 63, 3) := by decide +kernel
theorem d_X_order_66 : decode c_X_order 66 = .ok (.lload_n 2, 1) := by decide +kernel
theorem d_X_order_67 : decode c_X_order 67 = .ok (.ladd, 1) := by decide +kernel
theorem d_X_order_68 : decode c_X_order 68 = .ok (.putfield 63, 3) := by decide +kernel
theorem d_X_order_71 : decode c_X_order 71 = .ok (.aload_n 0, 1) := by decide +kernel
theorem d_X_order_72 : decode c_X_order 72 = .ok (.getfield 39, 3) := by decide +kernel
theorem d_X_order_75 : decode c_X_order 75 = .ok (.iconst 0, 1) := by decide +kernel
theorem d_X_order_76 : decode c_X_order 76 = .ok (.dup2, 1) := by decide +kernel
theorem d_X_order_77 : decode c_X_order 77 = .ok (.laload, 1) := by decide +kernel
theorem d_X_order_78 : decode c_X_order 78 = .ok (.lload_n 2, 1) := by decide +kernel
theorem d_X_order_79 : decode c_X_order 79 = .ok (.ladd, 1) := by decide +kernel
theorem d_X_order_80 : decode c_X_order 80 = .ok (.lastore, 1) := by decide +kernel
theorem d_X_order_81 : decode c_X_order 81 = .ok (.aload_n 0, 1) := by decide +kernel
theorem d_X_order_82 : decode c_X_order 82 = .ok (.aload 8, 2) := by decide +kernel
theorem d_X_order_84 : decode c_X_order 84 = .ok (.lload_n 2, 1) := by decide +kernel
theorem d_X_order_85 : decode c_X_order 85 = .ok (.lload 4, 2) := by decide +kernel
theorem d_X_order_87 : decode c_X_order 87 = .ok (.aload 9, 2) := by decide +kernel
theorem d_X_order_89 : decode c_X_order 89 = .ok (.iload 7, 2) := by decide +kernel
theorem d_X_order_91 : decode c_X_order 91 = .ok (.invokevirtual 67, 3) := by decide +kernel
theorem d_X_order_94 : decode c_X_order 94 = .ok (.ireturn, 1) := by decide +kernel
theorem d_X_find_0 : decode c_X_find 0 = .ok (.lload_n 1, 1) := by decide +kernel
theorem d_X_find_1 : decode c_X_find 1 = .ok (.ldc2_w 214, 3) := by decide +kernel
theorem d_X_find_4 : decode c_X_find 4 = .ok (.ldiv, 1) := by decide +kernel
theorem d_X_find_5 : decode c_X_find 5 = .ok (.lstore_n 3, 1) := by decide +kernel
theorem d_X_find_6 : decode c_X_find 6 = .ok (.lload_n 3, 1) := by decide +kernel
theorem d_X_find_7 : decode c_X_find 7 = .ok (.lconst 1, 1) := by decide +kernel
theorem d_X_find_8 : decode c_X_find 8 = .ok (.lcmp, 1) := by decide +kernel
theorem d_X_find_9 : decode c_X_find 9 = .ok (.ifCond .lt 13, 3) := by decide +kernel
theorem d_X_find_12 : decode c_X_find 12 = .ok (.lload_n 3, 1) := by decide +kernel
theorem d_X_find_13 : decode c_X_find 13 = .ok (.aload_n 0, 1) := by decide +kernel
theorem d_X_find_14 : decode c_X_find 14 = .ok (.getfield 59, 3) := by decide +kernel
theorem d_X_find_17 : decode c_X_find 17 = .ok (.i2l, 1) := by decide +kernel
theorem d_X_find_18 : decode c_X_find 18 = .ok (.lcmp, 1) := by decide +kernel
theorem d_X_find_19 : decode c_X_find 19 = .ok (.ifCond .le 5, 3) := by decide +kernel
theorem d_X_find_22 : decode c_X_find 22 = .ok (.aconst_null, 1) := by decide +kernel
theorem d_X_find_23 : decode c_X_find 23 = .ok (.areturn, 1) := by decide +kernel
theorem d_X_find_24 : decode c_X_find 24 = .ok (.aload_n 0, 1) := by decide +kernel
theorem d_X_find_25 : decode c_X_find 25 = .ok (.getfield 23, 3) := by decide +kernel
theorem d_X_find_28 : decode c_X_find 28 = .ok (.lload_n 3, 1) := by decide +kernel
theorem d_X_find_29 : decode c_X_find 29 = .ok (.l2i, 1) := by decide +kernel
theorem d_X_find_30 : decode c_X_find 30 = .ok (.iconst 1, 1) := by decide +kernel
theorem d_X_find_31 : decode c_X_find 31 = .ok (.isub, 1) := by decide +kernel
theorem d_X_find_32 : decode c_X_find 32 = .ok (.aaload, 1) := by decide +kernel
theorem d_X_find_33 : decode c_X_find 33 = .ok (.astore 5, 2) := by decide +kernel
theorem d_X_find_35 : decode c_X_find 35 = .ok (.aload 5, 2) := by decide +kernel
theorem d_X_find_37 : decode c_X_find 37 = .ok (.ifnull 14, 3) := by decide +kernel
theorem d_X_find_40 : decode c_X_find 40 = .ok (.aload 5, 2) := by decide +kernel
theorem d_X_find_42 : decode c_X_find 42 = .ok (.getfield 216, 3) := by decide +kernel
theorem d_X_find_45 : decode c_X_find 45 = .ok (.i2l, 1) := by decide +kernel
theorem d_X_find_46 : decode c_X_find 46 = .ok (.lload_n 1, 1) := by decide +kernel
theorem d_X_find_47 : decode c_X_find 47 = .ok (.lcmp, 1) := by decide +kernel
theorem d_X_find_48 : decode c_X_find 48 = .ok (.ifCond .eq 7, 3) := by decide +kernel
theorem d_X_find_51 : decode c_X_find 51 = .ok (.aconst_null, 1) := by decide +kernel
theorem d_X_find_52 : decode c_X_find 52 = .ok (.goto 5, 3) := by decide +kernel
theorem d_X_find_55 : decode c_X_find 55 = .ok (.aload 5, 2) := by decide +kernel
theorem d_X_find_57 : decode c_X_find 57 = .ok (.areturn, 1) := by decide +kernel
theorem d_Office_mayTouch_0 : decode c_Office_mayTouch 0 = .ok (.aload_n 1, 1) := by decide +kernel
theorem d_Office_mayTouch_1 : decode c_Office_mayTouch 1 = .ok (.getfield 24, 3) := by decide +kernel
theorem d_Office_mayTouch_4 : decode c_Office_mayTouch 4 = .ok (.aload_n 0, 1) := by decide +kernel
theorem d_Office_mayTouch_5 : decode c_Office_mayTouch 5 = .ok (.if_acmp .eq 17, 3) := by decide +kernel
theorem d_Office_mayTouch_8 : decode c_Office_mayTouch 8 = .ok (.aload_n 1, 1) := by decide +kernel
theorem d_Office_mayTouch_9 : decode c_Office_mayTouch 9 = .ok (.getfield 24, 3) := by decide +kernel
theorem d_Office_mayTouch_12 : decode c_Office_mayTouch 12 = .ok (.ifnonnull 14, 3) := by decide +kernel
theorem d_Office_mayTouch_15 : decode c_Office_mayTouch 15 = .ok (.aload_n 0, 1) := by decide +kernel
theorem d_Office_mayTouch_16 : decode c_Office_mayTouch 16 = .ok (.getfield 30, 3) := by decide +kernel
theorem d_Office_mayTouch_19 : decode c_Office_mayTouch 19 = .ok (.ifCond .ne 7, 3) := by decide +kernel
theorem d_Office_mayTouch_22 : decode c_Office_mayTouch 22 = .ok (.iconst 1, 1) := by decide +kernel
theorem d_Office_mayTouch_23 : decode c_Office_mayTouch 23 = .ok (.goto 4, 3) := by decide +kernel
theorem d_Office_mayTouch_26 : decode c_Office_mayTouch 26 = .ok (.iconst 0, 1) := by decide +kernel
theorem d_Office_mayTouch_27 : decode c_Office_mayTouch 27 = .ok (.ireturn, 1) := by decide +kernel
theorem d_Office_takesFailing_0 : decode c_Office_takesFailing 0 = .ok (.iconst 1, 1) := by decide +kernel
theorem d_Office_takesFailing_1 : decode c_Office_takesFailing 1 = .ok (.iload_n 1, 1) := by decide +kernel
theorem d_Office_takesFailing_2 : decode c_Office_takesFailing 2 = .ok (.ishl, 1) := by decide +kernel
theorem d_Office_takesFailing_3 : decode c_Office_takesFailing 3 = .ok (.istore_n 2, 1) := by decide +kernel
theorem d_Office_takesFailing_4 : decode c_Office_takesFailing 4 = .ok (.aload_n 0, 1) := by decide +kernel
theorem d_Office_takesFailing_5 : decode c_Office_takesFailing 5 = .ok (.getfield 34, 3) := by decide +kernel
theorem d_Office_takesFailing_8 : decode c_Office_takesFailing 8 = .ok (.iload_n 2, 1) := by decide +kernel
theorem d_Office_takesFailing_9 : decode c_Office_takesFailing 9 = .ok (.iand, 1) := by decide +kernel
theorem d_Office_takesFailing_10 : decode c_Office_takesFailing 10 = .ok (.ifCond .eq 7, 3) := by decide +kernel
theorem d_Office_takesFailing_13 : decode c_Office_takesFailing 13 = .ok (.iconst 1, 1) := by decide +kernel
theorem d_Office_takesFailing_14 : decode c_Office_takesFailing 14 = .ok (.goto 4, 3) := by decide +kernel
theorem d_Office_takesFailing_17 : decode c_Office_takesFailing 17 = .ok (.iconst 0, 1) := by decide +kernel
theorem d_Office_takesFailing_18 : decode c_Office_takesFailing 18 = .ok (.istore_n 3, 1) := by decide +kernel
theorem d_Office_takesFailing_19 : decode c_Office_takesFailing 19 = .ok (.aload_n 0, 1) := by decide +kernel
theorem d_Office_takesFailing_20 : decode c_Office_takesFailing 20 = .ok (.dup, 1) := by decide +kernel
theorem d_Office_takesFailing_21 : decode c_Office_takesFailing 21 = .ok (.getfield 34, 3) := by decide +kernel
theorem d_Office_takesFailing_24 : decode c_Office_takesFailing 24 = .ok (.iload_n 2, 1) := by decide +kernel
theorem d_Office_takesFailing_25 : decode c_Office_takesFailing 25 = .ok (.iconst (-1), 1) := by decide +kernel
theorem d_Office_takesFailing_26 : decode c_Office_takesFailing 26 = .ok (.ixor, 1) := by decide +kernel
theorem d_Office_takesFailing_27 : decode c_Office_takesFailing 27 = .ok (.iand, 1) := by decide +kernel
theorem d_Office_takesFailing_28 : decode c_Office_takesFailing 28 = .ok (.putfield 34, 3) := by decide +kernel
theorem d_Office_takesFailing_31 : decode c_Office_takesFailing 31 = .ok (.iload_n 3, 1) := by decide +kernel
theorem d_Office_takesFailing_32 : decode c_Office_takesFailing 32 = .ok (.ireturn, 1) := by decide +kernel
theorem d_Order_sum_0 : decode c_Order_sum 0 = .ok (.aload_n 0, 1) := by decide +kernel
theorem d_Order_sum_1 : decode c_Order_sum 1 = .ok (.getfield 28, 3) := by decide +kernel
theorem d_Order_sum_4 : decode c_Order_sum 4 = .ok (.aload_n 0, 1) := by decide +kernel
theorem d_Order_sum_5 : decode c_Order_sum 5 = .ok (.getfield 34, 3) := by decide +kernel
theorem d_Order_sum_8 : decode c_Order_sum 8 = .ok (.getfield 41, 3) := by decide +kernel
theorem d_Order_sum_11 : decode c_Order_sum 11 = .ok (.lmul, 1) := by decide +kernel
theorem d_Order_sum_12 : decode c_Order_sum 12 = .ok (.ldc2_w 46, 3) := by decide +kernel
theorem d_Order_sum_15 : decode c_Order_sum 15 = .ok (.ldiv, 1) := by decide +kernel
theorem d_Order_sum_16 : decode c_Order_sum 16 = .ok (.lreturn, 1) := by decide +kernel
theorem d_Office_keepsLimit_0 : decode c_Office_keepsLimit 0 = .ok (.lload_n 3, 1) := by decide +kernel
theorem d_Office_keepsLimit_1 : decode c_Office_keepsLimit 1 = .ok (.aload_n 0, 1) := by decide +kernel
theorem d_Office_keepsLimit_2 : decode c_Office_keepsLimit 2 = .ok (.getfield 17, 3) := by decide +kernel
theorem d_Office_keepsLimit_5 : decode c_Office_keepsLimit 5 = .ok (.lcmp, 1) := by decide +kernel
theorem d_Office_keepsLimit_6 : decode c_Office_keepsLimit 6 = .ok (.ifCond .ne 10, 3) := by decide +kernel
theorem d_Office_keepsLimit_9 : decode c_Office_keepsLimit 9 = .ok (.aload_n 0, 1) := by decide +kernel
theorem d_Office_keepsLimit_10 : decode c_Office_keepsLimit 10 = .ok (.getfield 37, 3) := by decide +kernel
theorem d_Office_keepsLimit_13 : decode c_Office_keepsLimit 13 = .ok (.goto 4, 3) := by decide +kernel
theorem d_Office_keepsLimit_16 : decode c_Office_keepsLimit 16 = .ok (.lconst 0, 1) := by decide +kernel
theorem d_Office_keepsLimit_17 : decode c_Office_keepsLimit 17 = .ok (.lstore 5, 2) := by decide +kernel
theorem d_Office_keepsLimit_19 : decode c_Office_keepsLimit 19 = .ok (.aload_n 0, 1) := by decide +kernel
theorem d_Office_keepsLimit_20 : decode c_Office_keepsLimit 20 = .ok (.getfield 11, 3) := by decide +kernel
theorem d_Office_keepsLimit_23 : decode c_Office_keepsLimit 23 = .ok (.ldc2_w 9, 3) := by decide +kernel
theorem d_Office_keepsLimit_26 : decode c_Office_keepsLimit 26 = .ok (.lcmp, 1) := by decide +kernel
theorem d_Office_keepsLimit_27 : decode c_Office_keepsLimit 27 = .ok (.ifCond .eq 15, 3) := by decide +kernel
theorem d_Office_keepsLimit_30 : decode c_Office_keepsLimit 30 = .ok (.lload 5, 2) := by decide +kernel
theorem d_Office_keepsLimit_32 : decode c_Office_keepsLimit 32 = .ok (.lload_n 1, 1) := by decide +kernel
end
section
theorem d_Office_keepsLimit_33 : decode c_Office_keepsLimit 33 = .ok (.ladd, 1) := by decide +kernel
theorem d_Office_keepsLimit_34 : decode c_Office_keepsLimit 34 = .ok (.aload_n 0, 1) := by decide +kernel
theorem d_Office_keepsLimit_35 : decode c_Office_keepsLimit 35 = .ok (.getfield 11, 3) := by decide +kernel
theorem d_Office_keepsLimit_38 : decode c_Office_keepsLimit 38 = .ok (.lcmp, 1) := by decide +kernel
theorem d_Office_keepsLimit_39 : decode c_Office_keepsLimit 39 = .ok (.ifCond .gt 7, 3) := by decide +kernel
theorem d_Office_keepsLimit_42 : decode c_Office_keepsLimit 42 = .ok (.iconst 1, 1) := by decide +kernel
theorem d_Office_keepsLimit_43 : decode c_Office_keepsLimit 43 = .ok (.goto 4, 3) := by decide +kernel
theorem d_Office_keepsLimit_46 : decode c_Office_keepsLimit 46 = .ok (.iconst 0, 1) := by decide +kernel
theorem d_Office_keepsLimit_47 : decode c_Office_keepsLimit 47 = .ok (.ireturn, 1) := by decide +kernel
theorem d_Office_giveOut_0 : decode c_Office_giveOut 0 = .ok (.aload_n 0, 1) := by decide +kernel
theorem d_Office_giveOut_1 : decode c_Office_giveOut 1 = .ok (.getfield 40, 3) := by decide +kernel
theorem d_Office_giveOut_4 : decode c_Office_giveOut 4 = .ok (.lload_n 1, 1) := by decide +kernel
theorem d_Office_giveOut_5 : decode c_Office_giveOut 5 = .ok (.lcmp, 1) := by decide +kernel
theorem d_Office_giveOut_6 : decode c_Office_giveOut 6 = .ok (.ifCond .ge 5, 3) := by decide +kernel
theorem d_Office_giveOut_9 : decode c_Office_giveOut 9 = .ok (.iconst 0, 1) := by decide +kernel
theorem d_Office_giveOut_10 : decode c_Office_giveOut 10 = .ok (.ireturn, 1) := by decide +kernel
theorem d_Office_giveOut_11 : decode c_Office_giveOut 11 = .ok (.aload_n 0, 1) := by decide +kernel
theorem d_Office_giveOut_12 : decode c_Office_giveOut 12 = .ok (.dup, 1) := by decide +kernel
theorem d_Office_giveOut_13 : decode c_Office_giveOut 13 = .ok (.getfield 40, 3) := by decide +kernel
theorem d_Office_giveOut_16 : decode c_Office_giveOut 16 = .ok (.lload_n 1, 1) := by decide +kernel
theorem d_Office_giveOut_17 : decode c_Office_giveOut 17 = .ok (.lsub, 1) := by decide +kernel
theorem d_Office_giveOut_18 : decode c_Office_giveOut 18 = .ok (.putfield 40, 3) := by decide +kernel
theorem d_Office_giveOut_21 : decode c_Office_giveOut 21 = .ok (.iconst 1, 1) := by decide +kernel
theorem d_Office_giveOut_22 : decode c_Office_giveOut 22 = .ok (.ireturn, 1) := by decide +kernel
theorem d_Order_leaveList_0 : decode c_Order_leaveList 0 = .ok (.aload_n 0, 1) := by decide +kernel
theorem d_Order_leaveList_1 : decode c_Order_leaveList 1 = .ok (.getfield 51, 3) := by decide +kernel
theorem d_Order_leaveList_4 : decode c_Order_leaveList 4 = .ok (.ifnull 21, 3) := by decide +kernel
theorem d_Order_leaveList_7 : decode c_Order_leaveList 7 = .ok (.aload_n 0, 1) := by decide +kernel
theorem d_Order_leaveList_8 : decode c_Order_leaveList 8 = .ok (.getfield 51, 3) := by decide +kernel
theorem d_Order_leaveList_11 : decode c_Order_leaveList 11 = .ok (.dup, 1) := by decide +kernel
theorem d_Order_leaveList_12 : decode c_Order_leaveList 12 = .ok (.getfield 54, 3) := by decide +kernel
theorem d_Order_leaveList_15 : decode c_Order_leaveList 15 = .ok (.iconst 1, 1) := by decide +kernel
theorem d_Order_leaveList_16 : decode c_Order_leaveList 16 = .ok (.isub, 1) := by decide +kernel
theorem d_Order_leaveList_17 : decode c_Order_leaveList 17 = .ok (.putfield 54, 3) := by decide +kernel
theorem d_Order_leaveList_20 : decode c_Order_leaveList 20 = .ok (.aload_n 0, 1) := by decide +kernel
theorem d_Order_leaveList_21 : decode c_Order_leaveList 21 = .ok (.aconst_null, 1) := by decide +kernel
theorem d_Order_leaveList_22 : decode c_Order_leaveList 22 = .ok (.putfield 51, 3) := by decide +kernel
theorem d_Order_leaveList_25 : decode c_Order_leaveList 25 = .ok (.return_, 1) := by decide +kernel
theorem d_Order_become_0 : decode c_Order_become 0 = .ok (.aload_n 0, 1) := by decide +kernel
theorem d_Order_become_1 : decode c_Order_become 1 = .ok (.iload_n 1, 1) := by decide +kernel
theorem d_Order_become_2 : decode c_Order_become 2 = .ok (.putfield 9, 3) := by decide +kernel
theorem d_Order_become_5 : decode c_Order_become 5 = .ok (.aload_n 0, 1) := by decide +kernel
theorem d_Order_become_6 : decode c_Order_become 6 = .ok (.invokevirtual 48, 3) := by decide +kernel
theorem d_Order_become_9 : decode c_Order_become 9 = .ok (.return_, 1) := by decide +kernel
theorem d_Office_know_0 : decode c_Office_know 0 = .ok (.lload_n 2, 1) := by decide +kernel
theorem d_Office_know_1 : decode c_Office_know 1 = .ok (.aload_n 0, 1) := by decide +kernel
theorem d_Office_know_2 : decode c_Office_know 2 = .ok (.getfield 17, 3) := by decide +kernel
theorem d_Office_know_5 : decode c_Office_know 5 = .ok (.lcmp, 1) := by decide +kernel
theorem d_Office_know_6 : decode c_Office_know 6 = .ok (.ifCond .eq 18, 3) := by decide +kernel
theorem d_Office_know_9 : decode c_Office_know 9 = .ok (.aload_n 0, 1) := by decide +kernel
theorem d_Office_know_10 : decode c_Office_know 10 = .ok (.lload_n 2, 1) := by decide +kernel
theorem d_Office_know_11 : decode c_Office_know 11 = .ok (.putfield 17, 3) := by decide +kernel
theorem d_Office_know_14 : decode c_Office_know 14 = .ok (.aload_n 0, 1) := by decide +kernel
theorem d_Office_know_15 : decode c_Office_know 15 = .ok (.lconst 0, 1) := by decide +kernel
theorem d_Office_know_16 : decode c_Office_know 16 = .ok (.putfield 37, 3) := by decide +kernel
theorem d_Office_know_19 : decode c_Office_know 19 = .ok (.aload_n 0, 1) := by decide +kernel
theorem d_Office_know_20 : decode c_Office_know 20 = .ok (.aconst_null, 1) := by decide +kernel
theorem d_Office_know_21 : decode c_Office_know 21 = .ok (.putfield 43, 3) := by decide +kernel
theorem d_Office_know_24 : decode c_Office_know 24 = .ok (.aload_n 0, 1) := by decide +kernel
theorem d_Office_know_25 : decode c_Office_know 25 = .ok (.dup, 1) := by decide +kernel
theorem d_Office_know_26 : decode c_Office_know 26 = .ok (.getfield 37, 3) := by decide +kernel
theorem d_Office_know_29 : decode c_Office_know 29 = .ok (.aload_n 1, 1) := by decide +kernel
theorem d_Office_know_30 : decode c_Office_know 30 = .ok (.invokevirtual 47, 3) := by decide +kernel
theorem d_Office_know_33 : decode c_Office_know 33 = .ok (.ladd, 1) := by decide +kernel
theorem d_Office_know_34 : decode c_Office_know 34 = .ok (.putfield 37, 3) := by decide +kernel
theorem d_Office_know_37 : decode c_Office_know 37 = .ok (.aload_n 1, 1) := by decide +kernel
theorem d_Office_know_38 : decode c_Office_know 38 = .ok (.aload_n 0, 1) := by decide +kernel
theorem d_Office_know_39 : decode c_Office_know 39 = .ok (.getfield 43, 3) := by decide +kernel
theorem d_Office_know_42 : decode c_Office_know 42 = .ok (.putfield 51, 3) := by decide +kernel
theorem d_Office_know_45 : decode c_Office_know 45 = .ok (.aload_n 0, 1) := by decide +kernel
theorem d_Office_know_46 : decode c_Office_know 46 = .ok (.aload_n 1, 1) := by decide +kernel
theorem d_Office_know_47 : decode c_Office_know 47 = .ok (.putfield 43, 3) := by decide +kernel
theorem d_Office_know_50 : decode c_Office_know 50 = .ok (.return_, 1) := by decide +kernel
theorem d_Office_knownWith_0 : decode c_Office_knownWith 0 = .ok (.iconst 0, 1) := by decide +kernel
theorem d_Office_knownWith_1 : decode c_Office_knownWith 1 = .ok (.istore_n 2, 1) := by decide +kernel
theorem d_Office_knownWith_2 : decode c_Office_knownWith 2 = .ok (.aload_n 0, 1) := by decide +kernel
theorem d_Office_knownWith_3 : decode c_Office_knownWith 3 = .ok (.getfield 43, 3) := by decide +kernel
theorem d_Office_knownWith_6 : decode c_Office_knownWith 6 = .ok (.astore_n 3, 1) := by decide +kernel
theorem d_Office_knownWith_7 : decode c_Office_knownWith 7 = .ok (.aload_n 3, 1) := by decide +kernel
theorem d_Office_knownWith_8 : decode c_Office_knownWith 8 = .ok (.ifnull 22, 3) := by decide +kernel
theorem d_Office_knownWith_11 : decode c_Office_knownWith 11 = .ok (.aload_n 3, 1) := by decide +kernel
theorem d_Office_knownWith_12 : decode c_Office_knownWith 12 = .ok (.getfield 54, 3) := by decide +kernel
theorem d_Office_knownWith_15 : decode c_Office_knownWith 15 = .ok (.iload_n 1, 1) := by decide +kernel
theorem d_Office_knownWith_16 : decode c_Office_knownWith 16 = .ok (.if_icmp .ne 6, 3) := by decide +kernel
theorem d_Office_knownWith_19 : decode c_Office_knownWith 19 = .ok (.iinc 2 1, 3) := by decide +kernel
theorem d_Office_knownWith_22 : decode c_Office_knownWith 22 = .ok (.aload_n 3, 1) := by decide +kernel
theorem d_Office_knownWith_23 : decode c_Office_knownWith 23 = .ok (.getfield 51, 3) := by decide +kernel
theorem d_Office_knownWith_26 : decode c_Office_knownWith 26 = .ok (.astore_n 3, 1) := by decide +kernel
theorem d_Office_knownWith_27 : decode c_Office_knownWith 27 = .ok (.goto (-20), 3) := by decide +kernel
theorem d_Office_knownWith_30 : decode c_Office_knownWith 30 = .ok (.iload_n 2, 1) := by decide +kernel
theorem d_Office_knownWith_31 : decode c_Office_knownWith 31 = .ok (.ireturn, 1) := by decide +kernel
theorem d_X_writePaid_0 : decode c_X_writePaid 0 = .ok (.aload_n 2, 1) := by decide +kernel
theorem d_X_writePaid_1 : decode c_X_writePaid 1 = .ok (.iconst 1, 1) := by decide +kernel
theorem d_X_writePaid_2 : decode c_X_writePaid 2 = .ok (.invokevirtual 132, 3) := by decide +kernel
theorem d_X_writePaid_5 : decode c_X_writePaid 5 = .ok (.aload_n 2, 1) := by decide +kernel
theorem d_X_writePaid_6 : decode c_X_writePaid 6 = .ok (.aload_n 1, 1) := by decide +kernel
theorem d_X_writePaid_7 : decode c_X_writePaid 7 = .ok (.putfield 197, 3) := by decide +kernel
theorem d_X_writePaid_10 : decode c_X_writePaid 10 = .ok (.aload_n 1, 1) := by decide +kernel
theorem d_X_writePaid_11 : decode c_X_writePaid 11 = .ok (.aload_n 2, 1) := by decide +kernel
theorem d_X_writePaid_12 : decode c_X_writePaid 12 = .ok (.lload_n 3, 1) := by decide +kernel
theorem d_X_writePaid_13 : decode c_X_writePaid 13 = .ok (.invokevirtual 247, 3) := by decide +kernel
theorem d_X_writePaid_16 : decode c_X_writePaid 16 = .ok (.aload_n 0, 1) := by decide +kernel
theorem d_X_writePaid_17 : decode c_X_writePaid 17 = .ok (.getfield 39, 3) := by decide +kernel
theorem d_X_writePaid_20 : decode c_X_writePaid 20 = .ok (.iconst 1, 1) := by decide +kernel
theorem d_X_writePaid_21 : decode c_X_writePaid 21 = .ok (.dup2, 1) := by decide +kernel
theorem d_X_writePaid_22 : decode c_X_writePaid 22 = .ok (.laload, 1) := by decide +kernel
theorem d_X_writePaid_23 : decode c_X_writePaid 23 = .ok (.aload_n 2, 1) := by decide +kernel
theorem d_X_writePaid_24 : decode c_X_writePaid 24 = .ok (.invokevirtual 204, 3) := by decide +kernel
theorem d_X_writePaid_27 : decode c_X_writePaid 27 = .ok (.ladd, 1) := by decide +kernel
theorem d_X_writePaid_28 : decode c_X_writePaid 28 = .ok (.lastore, 1) := by decide +kernel
theorem d_X_writePaid_29 : decode c_X_writePaid 29 = .ok (.aload_n 1, 1) := by decide +kernel
theorem d_X_writePaid_30 : decode c_X_writePaid 30 = .ok (.aload_n 2, 1) := by decide +kernel
theorem d_X_writePaid_31 : decode c_X_writePaid 31 = .ok (.getfield 152, 3) := by decide +kernel
theorem d_X_writePaid_34 : decode c_X_writePaid 34 = .ok (.invokevirtual 251, 3) := by decide +kernel
theorem d_X_writePaid_37 : decode c_X_writePaid 37 = .ok (.iconst 3, 1) := by decide +kernel
theorem d_X_writePaid_38 : decode c_X_writePaid 38 = .ok (.if_icmp .lt 14, 3) := by decide +kernel
theorem d_X_writePaid_41 : decode c_X_writePaid 41 = .ok (.aload_n 0, 1) := by decide +kernel
theorem d_X_writePaid_42 : decode c_X_writePaid 42 = .ok (.getfield 39, 3) := by decide +kernel
theorem d_X_writePaid_45 : decode c_X_writePaid 45 = .ok (.bipush 7, 2) := by decide +kernel
theorem d_X_writePaid_47 : decode c_X_writePaid 47 = .ok (.dup2, 1) := by decide +kernel
theorem d_X_writePaid_48 : decode c_X_writePaid 48 = .ok (.laload, 1) := by decide +kernel
theorem d_X_writePaid_49 : decode c_X_writePaid 49 = .ok (.lconst 1, 1) := by decide +kernel
theorem d_X_writePaid_50 : decode c_X_writePaid 50 = .ok (.ladd, 1) := by decide +kernel
theorem d_X_writePaid_51 : decode c_X_writePaid 51 = .ok (.lastore, 1) := by decide +kernel
theorem d_X_writePaid_52 : decode c_X_writePaid 52 = .ok (.return_, 1) := by decide +kernel
theorem d_X_takeStep_0 : decode c_X_takeStep 0 = .ok (.iload_n 1, 1) := by decide +kernel
theorem d_X_takeStep_1 : decode c_X_takeStep 1 = .ok (.tableswitch 98 1 4 #[31, 44, 60, 80], 31) := by decide +kernel
theorem d_X_takeStep_32 : decode c_X_takeStep 32 = .ok (.aload_n 0, 1) := by decide +kernel
theorem d_X_takeStep_33 : decode c_X_takeStep 33 = .ok (.getfield 39, 3) := by decide +kernel
theorem d_X_takeStep_36 : decode c_X_takeStep 36 = .ok (.bipush 8, 2) := by decide +kernel
theorem d_X_takeStep_38 : decode c_X_takeStep 38 = .ok (.dup2, 1) := by decide +kernel
theorem d_X_takeStep_39 : decode c_X_takeStep 39 = .ok (.laload, 1) := by decide +kernel
theorem d_X_takeStep_40 : decode c_X_takeStep 40 = .ok (.lconst 1, 1) := by decide +kernel
theorem d_X_takeStep_41 : decode c_X_takeStep 41 = .ok (.ladd, 1) := by decide +kernel
theorem d_X_takeStep_42 : decode c_X_takeStep 42 = .ok (.lastore, 1) := by decide +kernel
theorem d_X_takeStep_43 : decode c_X_takeStep 43 = .ok (.iconst 1, 1) := by decide +kernel
theorem d_X_takeStep_44 : decode c_X_takeStep 44 = .ok (.ireturn, 1) := by decide +kernel
theorem d_X_takeStep_45 : decode c_X_takeStep 45 = .ok (.iload 4, 2) := by decide +kernel
theorem d_X_takeStep_47 : decode c_X_takeStep 47 = .ok (.aload_n 3, 1) := by decide +kernel
theorem d_X_takeStep_48 : decode c_X_takeStep 48 = .ok (.getfield 152, 3) := by decide +kernel
theorem d_X_takeStep_51 : decode c_X_takeStep 51 = .ok (.if_icmp .ne 7, 3) := by decide +kernel
theorem d_X_takeStep_54 : decode c_X_takeStep 54 = .ok (.iconst 1, 1) := by decide +kernel
theorem d_X_takeStep_55 : decode c_X_takeStep 55 = .ok (.goto 5, 3) := by decide +kernel
theorem d_X_takeStep_58 : decode c_X_takeStep 58 = .ok (.bipush (-105), 2) := by decide +kernel
theorem d_X_takeStep_60 : decode c_X_takeStep 60 = .ok (.ireturn, 1) := by decide +kernel
theorem d_X_takeStep_61 : decode c_X_takeStep 61 = .ok (.aload_n 2, 1) := by decide +kernel
theorem d_X_takeStep_62 : decode c_X_takeStep 62 = .ok (.aload_n 3, 1) := by decide +kernel
theorem d_X_takeStep_63 : decode c_X_takeStep 63 = .ok (.invokevirtual 204, 3) := by decide +kernel
theorem d_X_takeStep_66 : decode c_X_takeStep 66 = .ok (.lload 5, 2) := by decide +kernel
theorem d_X_takeStep_68 : decode c_X_takeStep 68 = .ok (.invokevirtual 236, 3) := by decide +kernel
theorem d_X_takeStep_71 : decode c_X_takeStep 71 = .ok (.ifCond .eq 7, 3) := by decide +kernel
theorem d_X_takeStep_74 : decode c_X_takeStep 74 = .ok (.iconst 1, 1) := by decide +kernel
theorem d_X_takeStep_75 : decode c_X_takeStep 75 = .ok (.goto 5, 3) := by decide +kernel
theorem d_X_takeStep_78 : decode c_X_takeStep 78 = .ok (.bipush (-106), 2) := by decide +kernel
theorem d_X_takeStep_80 : decode c_X_takeStep 80 = .ok (.ireturn, 1) := by decide +kernel
theorem d_X_takeStep_81 : decode c_X_takeStep 81 = .ok (.aload_n 2, 1) := by decide +kernel
theorem d_X_takeStep_82 : decode c_X_takeStep 82 = .ok (.aload_n 3, 1) := by decide +kernel
theorem d_X_takeStep_83 : decode c_X_takeStep 83 = .ok (.invokevirtual 204, 3) := by decide +kernel
theorem d_X_takeStep_86 : decode c_X_takeStep 86 = .ok (.invokevirtual 240, 3) := by decide +kernel
theorem d_X_takeStep_89 : decode c_X_takeStep 89 = .ok (.ifCond .eq 7, 3) := by decide +kernel
theorem d_X_takeStep_92 : decode c_X_takeStep 92 = .ok (.iconst 1, 1) := by decide +kernel
theorem d_X_takeStep_93 : decode c_X_takeStep 93 = .ok (.goto 5, 3) := by decide +kernel
theorem d_X_takeStep_96 : decode c_X_takeStep 96 = .ok (.bipush (-107), 2) := by decide +kernel
theorem d_X_takeStep_98 : decode c_X_takeStep 98 = .ok (.ireturn, 1) := by decide +kernel
theorem d_X_takeStep_99 : decode c_X_takeStep 99 = .ok (.aload_n 0, 1) := by decide +kernel
theorem d_X_takeStep_100 : decode c_X_takeStep 100 = .ok (.aload_n 2, 1) := by decide +kernel
theorem d_X_takeStep_101 : decode c_X_takeStep 101 = .ok (.aload_n 3, 1) := by decide +kernel
theorem d_X_takeStep_102 : decode c_X_takeStep 102 = .ok (.lload 5, 2) := by decide +kernel
theorem d_X_takeStep_104 : decode c_X_takeStep 104 = .ok (.invokevirtual 243, 3) := by decide +kernel
theorem d_X_takeStep_107 : decode c_X_takeStep 107 = .ok (.iconst 1, 1) := by decide +kernel
theorem d_X_takeStep_108 : decode c_X_takeStep 108 = .ok (.ireturn, 1) := by decide +kernel
theorem d_X_undoSteps_0 : decode c_X_undoSteps 0 = .ok (.iload_n 1, 1) := by decide +kernel
theorem d_X_undoSteps_1 : decode c_X_undoSteps 1 = .ok (.istore 4, 2) := by decide +kernel
theorem d_X_undoSteps_3 : decode c_X_undoSteps 3 = .ok (.iload 4, 2) := by decide +kernel
theorem d_X_undoSteps_5 : decode c_X_undoSteps 5 = .ok (.iconst 1, 1) := by decide +kernel
theorem d_X_undoSteps_6 : decode c_X_undoSteps 6 = .ok (.if_icmp .lt 48, 3) := by decide +kernel
theorem d_X_undoSteps_9 : decode c_X_undoSteps 9 = .ok (.iload 4, 2) := by decide +kernel
theorem d_X_undoSteps_11 : decode c_X_undoSteps 11 = .ok (.iconst 4, 1) := by decide +kernel
theorem d_X_undoSteps_12 : decode c_X_undoSteps 12 = .ok (.if_icmp .ne 19, 3) := by decide +kernel
theorem d_X_undoSteps_15 : decode c_X_undoSteps 15 = .ok (.aload_n 2, 1) := by decide +kernel
theorem d_X_undoSteps_16 : decode c_X_undoSteps 16 = .ok (.dup, 1) := by decide +kernel
theorem d_X_undoSteps_17 : decode c_X_undoSteps 17 = .ok (.getfield 63, 3) := by decide +kernel
theorem d_X_undoSteps_20 : decode c_X_undoSteps 20 = .ok (.aload_n 3, 1) := by decide +kernel
theorem d_X_undoSteps_21 : decode c_X_undoSteps 21 = .ok (.invokevirtual 204, 3) := by decide +kernel
theorem d_X_undoSteps_24 : decode c_X_undoSteps 24 = .ok (.ladd, 1) := by decide +kernel
theorem d_X_undoSteps_25 : decode c_X_undoSteps 25 = .ok (.putfield 63, 3) := by decide +kernel
theorem d_X_undoSteps_28 : decode c_X_undoSteps 28 = .ok (.goto 20, 3) := by decide +kernel
theorem d_X_undoSteps_31 : decode c_X_undoSteps 31 = .ok (.iload 4, 2) := by decide +kernel
theorem d_X_undoSteps_33 : decode c_X_undoSteps 33 = .ok (.iconst 1, 1) := by decide +kernel
theorem d_X_undoSteps_34 : decode c_X_undoSteps 34 = .ok (.if_icmp .ne 14, 3) := by decide +kernel
theorem d_X_undoSteps_37 : decode c_X_undoSteps 37 = .ok (.aload_n 0, 1) := by decide +kernel
theorem d_X_undoSteps_38 : decode c_X_undoSteps 38 = .ok (.getfield 39, 3) := by decide +kernel
theorem d_X_undoSteps_41 : decode c_X_undoSteps 41 = .ok (.bipush 8, 2) := by decide +kernel
theorem d_X_undoSteps_43 : decode c_X_undoSteps 43 = .ok (.dup2, 1) := by decide +kernel
theorem d_X_undoSteps_44 : decode c_X_undoSteps 44 = .ok (.laload, 1) := by decide +kernel
theorem d_X_undoSteps_45 : decode c_X_undoSteps 45 = .ok (.lconst 1, 1) := by decide +kernel
theorem d_X_undoSteps_46 : decode c_X_undoSteps 46 = .ok (.lsub, 1) := by decide +kernel
theorem d_X_undoSteps_47 : decode c_X_undoSteps 47 = .ok (.lastore, 1) := by decide +kernel
theorem d_X_undoSteps_48 : decode c_X_undoSteps 48 = .ok (.iinc 4 (-1), 3) := by decide +kernel
theorem d_X_undoSteps_51 : decode c_X_undoSteps 51 = .ok (.goto (-48), 3) := by decide +kernel
theorem d_X_undoSteps_54 : decode c_X_undoSteps 54 = .ok (.return_, 1) := by decide +kernel
theorem d_X_goThroughSteps_0 : decode c_X_goThroughSteps 0 = .ok (.iconst 1, 1) := by decide +kernel
theorem d_X_goThroughSteps_1 : decode c_X_goThroughSteps 1 = .ok (.istore 6, 2) := by decide +kernel
theorem d_X_goThroughSteps_3 : decode c_X_goThroughSteps 3 = .ok (.iconst 0, 1) := by decide +kernel
theorem d_X_goThroughSteps_4 : decode c_X_goThroughSteps 4 = .ok (.istore 7, 2) := by decide +kernel
theorem d_X_goThroughSteps_6 : decode c_X_goThroughSteps 6 = .ok (.iconst 1, 1) := by decide +kernel
theorem d_X_goThroughSteps_7 : decode c_X_goThroughSteps 7 = .ok (.istore 8, 2) := by decide +kernel
theorem d_X_goThroughSteps_9 : decode c_X_goThroughSteps 9 = .ok (.iload 8, 2) := by decide +kernel
theorem d_X_goThroughSteps_11 : decode c_X_goThroughSteps 11 = .ok (.iconst 5, 1) := by decide +kernel
theorem d_X_goThroughSteps_12 : decode c_X_goThroughSteps 12 = .ok (.if_icmp .gt 52, 3) := by decide +kernel
theorem d_X_goThroughSteps_15 : decode c_X_goThroughSteps 15 = .ok (.iload 6, 2) := by decide +kernel
theorem d_X_goThroughSteps_17 : decode c_X_goThroughSteps 17 = .ok (.iconst 1, 1) := by decide +kernel
theorem d_X_goThroughSteps_18 : decode c_X_goThroughSteps 18 = .ok (.if_icmp .ne 46, 3) := by decide +kernel
theorem d_X_goThroughSteps_21 : decode c_X_goThroughSteps 21 = .ok (.aload_n 1, 1) := by decide +kernel
theorem d_X_goThroughSteps_22 : decode c_X_goThroughSteps 22 = .ok (.iload 8, 2) := by decide +kernel
theorem d_X_goThroughSteps_24 : decode c_X_goThroughSteps 24 = .ok (.invokevirtual 225, 3) := by decide +kernel
theorem d_X_goThroughSteps_27 : decode c_X_goThroughSteps 27 = .ok (.ifCond .eq 8, 3) := by decide +kernel
theorem d_X_goThroughSteps_30 : decode c_X_goThroughSteps 30 = .ok (.bipush (-108), 2) := by decide +kernel
theorem d_X_goThroughSteps_32 : decode c_X_goThroughSteps 32 = .ok (.goto 14, 3) := by decide +kernel
theorem d_X_goThroughSteps_35 : decode c_X_goThroughSteps 35 = .ok (.aload_n 0, 1) := by decide +kernel
theorem d_X_goThroughSteps_36 : decode c_X_goThroughSteps 36 = .ok (.iload 8, 2) := by decide +kernel
theorem d_X_goThroughSteps_38 : decode c_X_goThroughSteps 38 = .ok (.aload_n 1, 1) := by decide +kernel
theorem d_X_goThroughSteps_39 : decode c_X_goThroughSteps 39 = .ok (.aload_n 2, 1) := by decide +kernel
theorem d_X_goThroughSteps_40 : decode c_X_goThroughSteps 40 = .ok (.iload_n 3, 1) := by decide +kernel
theorem d_X_goThroughSteps_41 : decode c_X_goThroughSteps 41 = .ok (.lload 4, 2) := by decide +kernel
theorem d_X_goThroughSteps_43 : decode c_X_goThroughSteps 43 = .ok (.invokevirtual 228, 3) := by decide +kernel
theorem d_X_goThroughSteps_46 : decode c_X_goThroughSteps 46 = .ok (.istore 6, 2) := by decide +kernel
theorem d_X_goThroughSteps_48 : decode c_X_goThroughSteps 48 = .ok (.iload 6, 2) := by decide +kernel
theorem d_X_goThroughSteps_50 : decode c_X_goThroughSteps 50 = .ok (.iconst 1, 1) := by decide +kernel
theorem d_X_goThroughSteps_51 : decode c_X_goThroughSteps 51 = .ok (.if_icmp .ne 7, 3) := by decide +kernel
theorem d_X_goThroughSteps_54 : decode c_X_goThroughSteps 54 = .ok (.iload 8, 2) := by decide +kernel
theorem d_X_goThroughSteps_56 : decode c_X_goThroughSteps 56 = .ok (.istore 7, 2) := by decide +kernel
theorem d_X_goThroughSteps_58 : decode c_X_goThroughSteps 58 = .ok (.iinc 8 1, 3) := by decide +kernel
theorem d_X_goThroughSteps_61 : decode c_X_goThroughSteps 61 = .ok (.goto (-52), 3) := by decide +kernel
theorem d_X_goThroughSteps_64 : decode c_X_goThroughSteps 64 = .ok (.iload 6, 2) := by decide +kernel
theorem d_X_goThroughSteps_66 : decode c_X_goThroughSteps 66 = .ok (.bipush (-108), 2) := by decide +kernel
theorem d_X_goThroughSteps_68 : decode c_X_goThroughSteps 68 = .ok (.if_icmp .ne 14, 3) := by decide +kernel
theorem d_X_goThroughSteps_71 : decode c_X_goThroughSteps 71 = .ok (.aload_n 0, 1) := by decide +kernel
theorem d_X_goThroughSteps_72 : decode c_X_goThroughSteps 72 = .ok (.getfield 39, 3) := by decide +kernel
theorem d_X_goThroughSteps_75 : decode c_X_goThroughSteps 75 = .ok (.bipush 6, 2) := by decide +kernel
theorem d_X_goThroughSteps_77 : decode c_X_goThroughSteps 77 = .ok (.dup2, 1) := by decide +kernel
theorem d_X_goThroughSteps_78 : decode c_X_goThroughSteps 78 = .ok (.laload, 1) := by decide +kernel
theorem d_X_goThroughSteps_79 : decode c_X_goThroughSteps 79 = .ok (.lconst 1, 1) := by decide +kernel
theorem d_X_goThroughSteps_80 : decode c_X_goThroughSteps 80 = .ok (.ladd, 1) := by decide +kernel
theorem d_X_goThroughSteps_81 : decode c_X_goThroughSteps 81 = .ok (.lastore, 1) := by decide +kernel
theorem d_X_goThroughSteps_82 : decode c_X_goThroughSteps 82 = .ok (.iload 6, 2) := by decide +kernel
theorem d_X_goThroughSteps_84 : decode c_X_goThroughSteps 84 = .ok (.iconst 1, 1) := by decide +kernel
theorem d_X_goThroughSteps_85 : decode c_X_goThroughSteps 85 = .ok (.if_icmp .ne 17, 3) := by decide +kernel
theorem d_X_goThroughSteps_88 : decode c_X_goThroughSteps 88 = .ok (.aload_n 0, 1) := by decide +kernel
theorem d_X_goThroughSteps_89 : decode c_X_goThroughSteps 89 = .ok (.getfield 39, 3) := by decide +kernel
theorem d_X_goThroughSteps_92 : decode c_X_goThroughSteps 92 = .ok (.bipush 8, 2) := by decide +kernel
theorem d_X_goThroughSteps_94 : decode c_X_goThroughSteps 94 = .ok (.dup2, 1) := by decide +kernel
theorem d_X_goThroughSteps_95 : decode c_X_goThroughSteps 95 = .ok (.laload, 1) := by decide +kernel
theorem d_X_goThroughSteps_96 : decode c_X_goThroughSteps 96 = .ok (.lconst 1, 1) := by decide +kernel
theorem d_X_goThroughSteps_97 : decode c_X_goThroughSteps 97 = .ok (.lsub, 1) := by decide +kernel
theorem d_X_goThroughSteps_98 : decode c_X_goThroughSteps 98 = .ok (.lastore, 1) := by decide +kernel
theorem d_X_goThroughSteps_99 : decode c_X_goThroughSteps 99 = .ok (.goto 11, 3) := by decide +kernel
theorem d_X_goThroughSteps_102 : decode c_X_goThroughSteps 102 = .ok (.aload_n 0, 1) := by decide +kernel
theorem d_X_goThroughSteps_103 : decode c_X_goThroughSteps 103 = .ok (.iload 7, 2) := by decide +kernel
theorem d_X_goThroughSteps_105 : decode c_X_goThroughSteps 105 = .ok (.aload_n 1, 1) := by decide +kernel
theorem d_X_goThroughSteps_106 : decode c_X_goThroughSteps 106 = .ok (.aload_n 2, 1) := by decide +kernel
theorem d_X_goThroughSteps_107 : decode c_X_goThroughSteps 107 = .ok (.invokevirtual 232, 3) := by decide +kernel
theorem d_X_goThroughSteps_110 : decode c_X_goThroughSteps 110 = .ok (.iload 6, 2) := by decide +kernel
theorem d_X_goThroughSteps_112 : decode c_X_goThroughSteps 112 = .ok (.ireturn, 1) := by decide +kernel
theorem d_X_pay_0 : decode c_X_pay 0 = .ok (.aload_n 0, 1) := by decide +kernel
theorem d_X_pay_1 : decode c_X_pay 1 = .ok (.lload_n 2, 1) := by decide +kernel
theorem d_X_pay_2 : decode c_X_pay 2 = .ok (.invokevirtual 71, 3) := by decide +kernel
theorem d_X_pay_5 : decode c_X_pay 5 = .ok (.astore 7, 2) := by decide +kernel
theorem d_X_pay_7 : decode c_X_pay 7 = .ok (.aload 7, 2) := by decide +kernel
theorem d_X_pay_9 : decode c_X_pay 9 = .ok (.ifnonnull 6, 3) := by decide +kernel
theorem d_X_pay_12 : decode c_X_pay 12 = .ok (.bipush (-101), 2) := by decide +kernel
theorem d_X_pay_14 : decode c_X_pay 14 = .ok (.ireturn, 1) := by decide +kernel
theorem d_X_pay_15 : decode c_X_pay 15 = .ok (.aload_n 0, 1) := by decide +kernel
theorem d_X_pay_16 : decode c_X_pay 16 = .ok (.iload_n 1, 1) := by decide +kernel
theorem d_X_pay_17 : decode c_X_pay 17 = .ok (.invokevirtual 47, 3) := by decide +kernel
theorem d_X_pay_20 : decode c_X_pay 20 = .ok (.astore 8, 2) := by decide +kernel
theorem d_X_pay_22 : decode c_X_pay 22 = .ok (.aload 8, 2) := by decide +kernel
theorem d_X_pay_24 : decode c_X_pay 24 = .ok (.ifnull 10, 3) := by decide +kernel
theorem d_X_pay_27 : decode c_X_pay 27 = .ok (.lload 5, 2) := by decide +kernel
theorem d_X_pay_29 : decode c_X_pay 29 = .ok (.lconst 0, 1) := by decide +kernel
theorem d_X_pay_30 : decode c_X_pay 30 = .ok (.lcmp, 1) := by decide +kernel
theorem d_X_pay_31 : decode c_X_pay 31 = .ok (.ifCond .ge 6, 3) := by decide +kernel
theorem d_X_pay_34 : decode c_X_pay 34 = .ok (.bipush (-102), 2) := by decide +kernel
theorem d_X_pay_36 : decode c_X_pay 36 = .ok (.ireturn, 1) := by decide +kernel
theorem d_X_pay_37 : decode c_X_pay 37 = .ok (.aload 7, 2) := by decide +kernel
theorem d_X_pay_39 : decode c_X_pay 39 = .ok (.getfield 75, 3) := by decide +kernel
theorem d_X_pay_42 : decode c_X_pay 42 = .ok (.ifCond .ne 24, 3) := by decide +kernel
theorem d_X_pay_45 : decode c_X_pay 45 = .ok (.lload 5, 2) := by decide +kernel
theorem d_X_pay_47 : decode c_X_pay 47 = .ok (.aload 7, 2) := by decide +kernel
theorem d_X_pay_49 : decode c_X_pay 49 = .ok (.getfield 78, 3) := by decide +kernel
theorem d_X_pay_52 : decode c_X_pay 52 = .ok (.lcmp, 1) := by decide +kernel
theorem d_X_pay_53 : decode c_X_pay 53 = .ok (.ifCond .gt 13, 3) := by decide +kernel
theorem d_X_pay_56 : decode c_X_pay 56 = .ok (.aload 8, 2) := by decide +kernel
theorem d_X_pay_58 : decode c_X_pay 58 = .ok (.aload 7, 2) := by decide +kernel
theorem d_X_pay_60 : decode c_X_pay 60 = .ok (.invokevirtual 81, 3) := by decide +kernel
theorem d_X_pay_63 : decode c_X_pay 63 = .ok (.ifCond .ne 6, 3) := by decide +kernel
theorem d_X_pay_66 : decode c_X_pay 66 = .ok (.bipush (-103), 2) := by decide +kernel
theorem d_X_pay_68 : decode c_X_pay 68 = .ok (.ireturn, 1) := by decide +kernel
theorem d_X_pay_69 : decode c_X_pay 69 = .ok (.aload_n 0, 1) := by decide +kernel
theorem d_X_pay_70 : decode c_X_pay 70 = .ok (.aload 8, 2) := by decide +kernel
theorem d_X_pay_72 : decode c_X_pay 72 = .ok (.aload 7, 2) := by decide +kernel
theorem d_X_pay_74 : decode c_X_pay 74 = .ok (.iload 4, 2) := by decide +kernel
theorem d_X_pay_76 : decode c_X_pay 76 = .ok (.lload 5, 2) := by decide +kernel
theorem d_X_pay_78 : decode c_X_pay 78 = .ok (.ldc2_w 85, 3) := by decide +kernel
theorem d_X_pay_81 : decode c_X_pay 81 = .ok (.ldiv, 1) := by decide +kernel
theorem d_X_pay_82 : decode c_X_pay 82 = .ok (.invokevirtual 87, 3) := by decide +kernel
theorem d_X_pay_85 : decode c_X_pay 85 = .ok (.ireturn, 1) := by decide +kernel
theorem d_Office_tellToFail_0 : decode c_Office_tellToFail 0 = .ok (.iconst 1, 1) := by decide +kernel
theorem d_Office_tellToFail_1 : decode c_Office_tellToFail 1 = .ok (.iload_n 1, 1) := by decide +kernel
theorem d_Office_tellToFail_2 : decode c_Office_tellToFail 2 = .ok (.ishl, 1) := by decide +kernel
theorem d_Office_tellToFail_3 : decode c_Office_tellToFail 3 = .ok (.istore_n 2, 1) := by decide +kernel
theorem d_Office_tellToFail_4 : decode c_Office_tellToFail 4 = .ok (.aload_n 0, 1) := by decide +kernel
theorem d_Office_tellToFail_5 : decode c_Office_tellToFail 5 = .ok (.getfield 34, 3) := by decide +kernel
theorem d_Office_tellToFail_8 : decode c_Office_tellToFail 8 = .ok (.iload_n 2, 1) := by decide +kernel
theorem d_Office_tellToFail_9 : decode c_Office_tellToFail 9 = .ok (.iand, 1) := by decide +kernel
theorem d_Office_tellToFail_10 : decode c_Office_tellToFail 10 = .ok (.ifCond .ne 7, 3) := by decide +kernel
theorem d_Office_tellToFail_13 : decode c_Office_tellToFail 13 = .ok (.iconst 1, 1) := by decide +kernel
theorem d_Office_tellToFail_14 : decode c_Office_tellToFail 14 = .ok (.goto 4, 3) := by decide +kernel
theorem d_Office_tellToFail_17 : decode c_Office_tellToFail 17 = .ok (.iconst 0, 1) := by decide +kernel
theorem d_Office_tellToFail_18 : decode c_Office_tellToFail 18 = .ok (.istore_n 3, 1) := by decide +kernel
theorem d_Office_tellToFail_19 : decode c_Office_tellToFail 19 = .ok (.aload_n 0, 1) := by decide +kernel
theorem d_Office_tellToFail_20 : decode c_Office_tellToFail 20 = .ok (.dup, 1) := by decide +kernel
theorem d_Office_tellToFail_21 : decode c_Office_tellToFail 21 = .ok (.getfield 34, 3) := by decide +kernel
theorem d_Office_tellToFail_24 : decode c_Office_tellToFail 24 = .ok (.iload_n 2, 1) := by decide +kernel
theorem d_Office_tellToFail_25 : decode c_Office_tellToFail 25 = .ok (.ior, 1) := by decide +kernel
theorem d_Office_tellToFail_26 : decode c_Office_tellToFail 26 = .ok (.putfield 34, 3) := by decide +kernel
theorem d_Office_tellToFail_29 : decode c_Office_tellToFail 29 = .ok (.iload_n 3, 1) := by decide +kernel
theorem d_Office_tellToFail_30 : decode c_Office_tellToFail 30 = .ok (.ireturn, 1) := by decide +kernel
theorem d_X_fails_0 : decode c_X_fails 0 = .ok (.aload_n 0, 1) := by decide +kernel
theorem d_X_fails_1 : decode c_X_fails 1 = .ok (.iload_n 1, 1) := by decide +kernel
theorem d_X_fails_2 : decode c_X_fails 2 = .ok (.invokevirtual 47, 3) := by decide +kernel
theorem d_X_fails_5 : decode c_X_fails 5 = .ok (.astore_n 3, 1) := by decide +kernel
theorem d_X_fails_6 : decode c_X_fails 6 = .ok (.aload_n 3, 1) := by decide +kernel
theorem d_X_fails_7 : decode c_X_fails 7 = .ok (.ifnull 13, 3) := by decide +kernel
theorem d_X_fails_10 : decode c_X_fails 10 = .ok (.iload_n 2, 1) := by decide +kernel
theorem d_X_fails_11 : decode c_X_fails 11 = .ok (.iconst 1, 1) := by decide +kernel
theorem d_X_fails_12 : decode c_X_fails 12 = .ok (.if_icmp .lt 8, 3) := by decide +kernel
theorem d_X_fails_15 : decode c_X_fails 15 = .ok (.iload_n 2, 1) := by decide +kernel
theorem d_X_fails_16 : decode c_X_fails 16 = .ok (.iconst 5, 1) := by decide +kernel
theorem d_X_fails_17 : decode c_X_fails 17 = .ok (.if_icmp .le 6, 3) := by decide +kernel
theorem d_X_fails_20 : decode c_X_fails 20 = .ok (.bipush (-102), 2) := by decide +kernel
theorem d_X_fails_22 : decode c_X_fails 22 = .ok (.ireturn, 1) := by decide +kernel
theorem d_X_fails_23 : decode c_X_fails 23 = .ok (.aload_n 3, 1) := by decide +kernel
theorem d_X_fails_24 : decode c_X_fails 24 = .ok (.iload_n 2, 1) := by decide +kernel
theorem d_X_fails_25 : decode c_X_fails 25 = .ok (.invokevirtual 91, 3) := by decide +kernel
theorem d_X_fails_28 : decode c_X_fails 28 = .ok (.ifCond .eq 7, 3) := by decide +kernel
theorem d_X_fails_31 : decode c_X_fails 31 = .ok (.iconst 1, 1) := by decide +kernel
theorem d_X_fails_32 : decode c_X_fails 32 = .ok (.goto 4, 3) := by decide +kernel
theorem d_X_fails_35 : decode c_X_fails 35 = .ok (.iconst 0, 1) := by decide +kernel
theorem d_X_fails_36 : decode c_X_fails 36 = .ok (.ireturn, 1) := by decide +kernel
end
section
def wp_Office_init (σ : ST) (h0 : Nat) (p1 : Int32) (K : ST → Prop) : Prop :=
  st_tg σ h0 = some 4 ∧ (∀ σ_2 : ST, σ_2 = st_sJ σ 162 h0 ((-1)) → (∀ σ_5 : ST, σ_5 = st_sJ σ_2 166 h0 ((-1)) → (∀ σ_8 : ST, σ_8 = st_sI σ_5 160 h0 p1 → (K σ_8))))
abbrev ROOM_Office_init : Room := { frames := 1, cells := 0, slots := 0, locals := 12 }
set_option maxHeartbeats 4000000 in
set_option maxRecDepth 100000 in
theorem mc_Office_init (l : Launch) (D : va_G) (A : Nat → Prop) (σ : ST) (h0 : Nat) (p1 : Int32) (K : ST → Prop) : Met l y_Office_init ws_Office_init ROOM_Office_init (va_Pc [.ref h0, .int p1] (fun U => mw D A σ U ∧ mn U ∧ wp_Office_init σ h0 p1 K)) (va_Qv K (mw D A) A) 0 0 A := by
  refine Met.ofW (cc := c_Office_init) (maxL := 2) (ret := none) (by decide) rfl ?_
  intro p e s m args below meth c s₁ B hml hv
  obtain ⟨rfl, ⟨hH, hK, hA⟩, hn, h⟩ := hv
  have hx := B.exec
  have hb := B.bytes
  have hr := B.returns
  have hts := atoms_spec (ws := ws_Office_init) B.pre
  have hown : s.vm.findClass R_Office = some m.cls := findClass_of_methodNamed B.named
  have hlocks := B.notSynchronized
  have hin : meth.name = "<init>" := (name_of_methodNamed B.named B.method).1
  have hts : ∀ w ∈ lw_g, w.before ([.ref h0, .int p1] : List Value).toArray s = true := fun w hw => hts w (List.mem_cons_of_mem _ hw)
  have hS : va_S A s.heap s.heap [] := va_S.rf
  have hl := lv_entry ([.ref h0, .int p1]) (n := 2) (Nat.le_of_ble_eq_true rfl)
  rw [lg_entry_eq]
  generalize (lg_sl ([.ref h0, .int p1]) ++ List.replicate (2 - (lg_sl ([.ref h0, .int p1])).length) Slot.unset).toArray = ls at hl ⊢
  have hl : lv_has ls 2 [(0, va_rf (some h0)), (1, .int p1)] := hl
  unfold wp_Office_init at h
  refine mr_aload_n hx hb d_Office_init_0 rfl (lv_at hl 0 rfl) ?_
  refine W.objInit hx hb hown (hts _ wd_31) (hts _ wd_15) (hts _ wd_16) rfl (by rw [hml]; exact hl.1) rfl d_Office_init_1 (Nat.le_of_ble_eq_true rfl) (Nat.le_of_ble_eq_true rfl) ?_
  refine W.eq (g2 := F0 m 4 ls []) rfl ?_
  refine mr_aload_n hx hb d_Office_init_4 rfl (lv_at hl 0 rfl) ?_
  refine lv_ldc2 (v := (-1)) hx hb hown (hts _ wd_32) d_Office_init_5 ?_
  obtain ⟨t_1, h⟩ := h
  obtain ⟨σ_2, z_3⟩ : ∃ y : ST, y = st_sJ σ 162 h0 ((-1)) := ⟨_, rfl⟩
  have h := h σ_2 z_3
  refine ms_put (σ := σ) (r := some h0) (a := h0) (fs := fl_4 σ h0) (ci := 4) (C := R_Office) (T := T_Office) (N := 9) (v := .long (-1)) (ty := .long) hx hb hts in_4 ty_Office ty_Office_ok nm_Office hown hK hH hS rfl (cell_4 t_1) rfl 2 (by decide) (hts _ wd_37) (fun _ h9 => h9) rfl (by decide +kernel) rfl rfl (Nat.le_of_ble_eq_true rfl) d_Office_init_8 (σ1 := σ_2) (by rw [z_3]; exact put_4_2 σ h0 ((-1)) t_1) (by rw [z_3]; rfl) (by rw [z_3]; rfl) (fun H locs hH hK hS => ?_)
  have t_4 : st_tg σ_2 h0 = some 4 := by rw [z_3]; exact t_1
  refine mr_aload_n hx hb d_Office_init_11 rfl (lv_at hl 0 rfl) ?_
  refine lv_ldc2 (v := (-1)) hx hb hown (hts _ wd_32) d_Office_init_12 ?_
  obtain ⟨σ_5, z_6⟩ : ∃ y : ST, y = st_sJ σ_2 166 h0 ((-1)) := ⟨_, rfl⟩
  have h := h σ_5 z_6
  refine ms_put (σ := σ_2) (r := some h0) (a := h0) (fs := fl_4 σ_2 h0) (ci := 4) (C := R_Office) (T := T_Office) (N := 9) (v := .long (-1)) (ty := .long) hx hb hts in_4 ty_Office ty_Office_ok nm_Office hown hK hH hS rfl (cell_4 t_4) rfl 6 (by decide) (hts _ wd_44) (fun _ h9 => h9) rfl (by decide +kernel) rfl rfl (Nat.le_of_ble_eq_true rfl) d_Office_init_15 (σ1 := σ_5) (by rw [z_6]; exact put_4_6 σ_2 h0 ((-1)) t_4) (by rw [z_6]; rfl) (by rw [z_6]; rfl) (fun H locs hH hK hS => ?_)
  have t_7 : st_tg σ_5 h0 = some 4 := by rw [z_6]; exact t_4
  refine mr_aload_n hx hb d_Office_init_18 rfl (lv_at hl 0 rfl) ?_
  refine lv_iload_n hx hb d_Office_init_19 rfl (lv_at hl 1 rfl) ?_
  obtain ⟨σ_8, z_9⟩ : ∃ y : ST, y = st_sI σ_5 160 h0 p1 := ⟨_, rfl⟩
  have h := h σ_8 z_9
  refine ms_putF (σ := σ_5) (r := some h0) (a := h0) (fs := fl_4 σ_5 h0) (ci := 4) (C := R_Office) (T := T_Office) (N := 9) (v := .int p1) (ty := .int) hx hb hts in_4 ty_Office ty_Office_ok nm_Office hown hK hH hS rfl (cell_4 t_7) rfl 0 (by decide) (hts _ wd_33) (fun _ h9 => h9) rfl hin rfl (by decide +kernel) rfl rfl (Nat.le_of_ble_eq_true rfl) d_Office_init_20 (σ1 := σ_8) (by rw [z_9]; exact put_4_0 σ_5 h0 p1 t_7) (by rw [z_9]; rfl) (by rw [z_9]; rfl) (fun H locs hH hK hS => ?_)
  have t_10 : st_tg σ_8 h0 = some 4 := by rw [z_9]; exact t_7
  exact W.vret hx hb hr (fun t ht hW => ⟨⟨σ_8, rfl, h, mw_pass hH hK hA hS ht hW⟩, hS.F ht⟩) hS.2.2 d_Office_init_23
def wp_Currency_init (σ : ST) (h0 : Nat) (K : ST → Prop) : Prop :=
  st_tg σ h0 = some 3 ∧ (∀ σ_2 : ST, σ_2 = st_sJ σ 120 h0 1000 → (K σ_2))
abbrev ROOM_Currency_init : Room := { frames := 1, cells := 0, slots := 0, locals := 12 }
set_option maxHeartbeats 4000000 in
set_option maxRecDepth 100000 in
theorem mc_Currency_init (l : Launch) (D : va_G) (A : Nat → Prop) (σ : ST) (h0 : Nat) (K : ST → Prop) : Met l y_Currency_init ws_Currency_init ROOM_Currency_init (va_Pc [.ref h0] (fun U => mw D A σ U ∧ mn U ∧ wp_Currency_init σ h0 K)) (va_Qv K (mw D A) A) 0 0 A := by
  refine Met.ofW (cc := c_Currency_init) (maxL := 1) (ret := none) (by decide) rfl ?_
  intro p e s m args below meth c s₁ B hml hv
  obtain ⟨rfl, ⟨hH, hK, hA⟩, hn, h⟩ := hv
  have hx := B.exec
  have hb := B.bytes
  have hr := B.returns
  have hts := atoms_spec (ws := ws_Currency_init) B.pre
  have hown : s.vm.findClass R_Currency = some m.cls := findClass_of_methodNamed B.named
  have hlocks := B.notSynchronized
  have hin : meth.name = "<init>" := (name_of_methodNamed B.named B.method).1
  have hts : ∀ w ∈ lw_g, w.before ([.ref h0] : List Value).toArray s = true := fun w hw => hts w (List.mem_cons_of_mem _ hw)
  have hS : va_S A s.heap s.heap [] := va_S.rf
  have hl := lv_entry ([.ref h0]) (n := 1) (Nat.le_of_ble_eq_true rfl)
  rw [lg_entry_eq]
  generalize (lg_sl ([.ref h0]) ++ List.replicate (1 - (lg_sl ([.ref h0])).length) Slot.unset).toArray = ls at hl ⊢
  have hl : lv_has ls 1 [(0, va_rf (some h0))] := hl
  unfold wp_Currency_init at h
  refine mr_aload_n hx hb d_Currency_init_0 rfl (lv_at hl 0 rfl) ?_
  refine W.objInit hx hb hown (hts _ wd_71) (hts _ wd_15) (hts _ wd_16) rfl (by rw [hml]; exact hl.1) rfl d_Currency_init_1 (Nat.le_of_ble_eq_true rfl) (Nat.le_of_ble_eq_true rfl) ?_
  refine W.eq (g2 := F0 m 4 ls []) rfl ?_
  refine mr_aload_n hx hb d_Currency_init_4 rfl (lv_at hl 0 rfl) ?_
  refine lv_ldc2 (v := 1000) hx hb hown (hts _ wd_72) d_Currency_init_5 ?_
  obtain ⟨t_1, h⟩ := h
  obtain ⟨σ_2, z_3⟩ : ∃ y : ST, y = st_sJ σ 120 h0 1000 := ⟨_, rfl⟩
  have h := h σ_2 z_3
  refine ms_put (σ := σ) (r := some h0) (a := h0) (fs := fl_3 σ h0) (ci := 3) (C := R_Currency) (T := T_Currency) (N := 1) (v := .long 1000) (ty := .long) hx hb hts in_3 ty_Currency ty_Currency_ok nm_Currency hown hK hH hS rfl (cell_3 t_1) rfl 0 (by decide) (hts _ wd_73) (fun _ h9 => h9) rfl (by decide +kernel) rfl rfl (Nat.le_of_ble_eq_true rfl) d_Currency_init_8 (σ1 := σ_2) (by rw [z_3]; exact put_3_0 σ h0 1000 t_1) (by rw [z_3]; rfl) (by rw [z_3]; rfl) (fun H locs hH hK hS => ?_)
  have t_4 : st_tg σ_2 h0 = some 3 := by rw [z_3]; exact t_1
  exact W.vret hx hb hr (fun t ht hW => ⟨⟨σ_2, rfl, h, mw_pass hH hK hA hS ht hW⟩, hS.F ht⟩) hS.2.2 d_Currency_init_11
def wb_X_init_87 (h0 : Nat) (K : ST → Prop) : Nat → ST → Int32 → Prop
  | 0, _, _ => False
  | n + 1, σ, v1 =>
  (((4 ≤ v1) → K σ) ∧
  ((¬ 4 ≤ v1) → st_tg σ h0 = some 0 ∧ (∀ q_100 : Nat, st_tg σ q_100 = none → ∀ σ_101 : ST, σ_101 = st_new σ q_100 3 → (wp_Currency_init σ_101 q_100 (fun σ_107 =>
  ∃ a_108 : Nat, (st_R σ 1 h0) = some a_108 ∧ st_tg σ_107 a_108 = some 313 ∧ (vp_in v1 (st_ln σ_107 a_108) ∧ ((∀ y : Nat, some q_100 = some y → st_tg σ_107 y = some 3) ∧ (∀ σ_113 : ST, σ_113 = st_uR σ_107 a_108 (Int32.toNatClampNeg v1) (some q_100) → (∀ x_116 : Int32, x_116 = v1 + 1 → (wb_X_init_87 h0 K n σ_113 x_116))))))))))
def wb_X_init_59 (h0 : Nat) (K : ST → Prop) : Nat → ST → Int32 → Prop
  | 0, _, _ => False
  | n + 1, σ, v1 =>
  (((8 ≤ v1) → ∃ n : Nat, n ≤ 5 ∧ wb_X_init_87 h0 K n σ 0) ∧
  ((¬ 8 ≤ v1) → st_tg σ h0 = some 0 ∧ (∀ q_119 : Nat, st_tg σ q_119 = none → ∀ σ_120 : ST, σ_120 = st_new σ q_119 4 → (wp_Office_init σ_120 q_119 v1 (fun σ_126 =>
  ∃ a_127 : Nat, (st_R σ 0 h0) = some a_127 ∧ st_tg σ_126 a_127 = some 314 ∧ (vp_in v1 (st_ln σ_126 a_127) ∧ ((∀ y : Nat, some q_119 = some y → st_tg σ_126 y = some 4) ∧ (∀ σ_132 : ST, σ_132 = st_uR σ_126 a_127 (Int32.toNatClampNeg v1) (some q_119) → (∀ x_135 : Int32, x_135 = v1 + 1 → (wb_X_init_59 h0 K n σ_132 x_135))))))))))
def wp_X_init (σ : ST) (h0 : Nat) (K : ST → Prop) : Prop :=
  ∀ (q_1 : Nat) (C_2 : ClassId), st_tg σ q_1 = none → ∀ σ_3 : ST, σ_3 = st_arr σ q_1 314 C_2 8 → (st_tg σ_3 h0 = some 0 ∧ (∀ σ_8 : ST, σ_8 = st_sR σ_3 0 h0 (some q_1) → (∀ (q_12 : Nat) (C_13 : ClassId), st_tg σ_8 q_12 = none → ∀ σ_14 : ST, σ_14 = st_arr σ_8 q_12 313 C_13 4 → (∀ σ_20 : ST, σ_20 = st_sR σ_14 1 h0 (some q_12) → (∀ (q_25 : Nat) (C_26 : ClassId), st_tg σ_20 q_25 = none → ∀ σ_27 : ST, σ_27 = st_arr σ_20 q_25 315 C_26 300 → (∀ σ_34 : ST, σ_34 = st_sR σ_27 2 h0 (some q_25) → (∀ (q_40 : Nat) (C_41 : ClassId), st_tg σ_34 q_40 = none → ∀ σ_42 : ST, σ_42 = st_arr σ_34 q_40 316 C_41 100 → (∀ σ_50 : ST, σ_50 = st_sR σ_42 4 h0 (some q_40) → (∀ (q_57 : Nat) (C_58 : ClassId), st_tg σ_50 q_57 = none → ∀ σ_59 : ST, σ_59 = st_arr σ_50 q_57 312 C_58 100 → (∀ σ_68 : ST, σ_68 = st_sR σ_59 7 h0 (some q_57) → (∀ (q_76 : Nat) (C_77 : ClassId), st_tg σ_68 q_76 = none → ∀ σ_78 : ST, σ_78 = st_arr σ_68 q_76 302 C_77 9 → (∀ σ_88 : ST, σ_88 = st_sR σ_78 9 h0 (some q_76) → (∃ n : Nat, n ≤ 9 ∧ wb_X_init_59 h0 K n σ_88 0)))))))))))))
abbrev ROOM_X_init : Room := { frames := 2, cells := 21, slots := 611, locals := 33 }
set_option maxHeartbeats 4000000 in
set_option maxRecDepth 100000 in
theorem mc_X_init (l : Launch) (D : va_G) (A : Nat → Prop) (σ : ST) (h0 : Nat) (K : ST → Prop) : Met l y_X_init ws_X_init ROOM_X_init (va_Pc [.ref h0] (fun U => mw D A σ U ∧ mn U ∧ wp_X_init σ h0 K)) (va_Qv K (mw D A) A) 21 611 A := by
  refine Met.ofW (cc := c_X_init) (maxL := 2) (ret := none) (by decide) rfl ?_
  intro p e s m args below meth c s₁ B hml hv
  obtain ⟨rfl, ⟨hH, hK, hA⟩, hn, h⟩ := hv
  have hx := B.exec
  have hb := B.bytes
  have hr := B.returns
  have hts := atoms_spec (ws := ws_X_init) B.pre
  have hown : s.vm.findClass R_X = some m.cls := findClass_of_methodNamed B.named
  have hlocks := B.notSynchronized
  have hin : meth.name = "<init>" := (name_of_methodNamed B.named B.method).1
  have hts : ∀ w ∈ lw_g, w.before ([.ref h0] : List Value).toArray s = true := fun w hw => hts w (List.mem_cons_of_mem _ hw)
  have b_87 : ∀ (n : Nat), n ≤ 5 → ∀ (σ : ST) (v1 : Int32) (H : Heap) (locs : List Loc) (ls : Array Slot), mg_H D vwCl A (st_cell σ) H → mk_K D σ s → va_S A s.heap H locs → lv_has ls 2 [(0, va_rf (some h0)), (1, .int v1)] → wb_X_init_87 h0 K n σ v1 → W p l e (headSpec ws_X_init ROOM_X_init).room s m ([.ref h0] : List Value).toArray below meth c H locs (15 + (5 - n) * 1) (602 + (5 - n) * 1) (MQ below (va_Qv K (mw D A) A) ([.ref h0] : List Value).toArray s 21 611 A) (F0 m 87 ls []) := by
    intro n
    induction n with
    | zero =>
      intro hN σ v1 H locs ls hH hK hS hl h
      exact h.elim
    | succ n ih =>
      intro hN σ v1 H locs ls hH hK hS hl h
      unfold wb_X_init_87 at h
      refine lv_iload_n hx hb d_X_init_87 rfl (lv_at hl 1 rfl) ?_
      refine lv_iconst (v := 4) hx hb d_X_init_88 (by decide) ?_
      refine lv_icmp_ge (tgt := 111) hx hb d_X_init_89 (by decide) (fun c_98 => ?_) (fun c_98 => ?_)
      · have h := h.1 c_98
        refine W.widen (k := 20) (n := 607) (by omega) (by omega) ?_
        refine W.widen (k := 21) (n := 611) (by decide) (by decide) ?_
        exact W.vret hx hb hr (fun t ht hW => ⟨⟨σ, rfl, h, mw_pass hH hK hA hS ht hW⟩, hS.F ht⟩) hS.2.2 d_X_init_111
      · have h := h.2 c_98
        refine mr_aload_n hx hb d_X_init_92 rfl (lv_at hl 0 rfl) ?_
        obtain ⟨t_99, h⟩ := h
        refine ms_get (σ := σ) (r := some h0) (a := h0) (fs := fl_0 σ h0) (ci := 0) (C := R_X) (T := T_X) (N := 10) hx hb hts in_0 hown hK hH rfl (cell_0 t_99) rfl 1 (by decide) (hts _ wd_80) (fun _ h9 => h9) (v := va_rf (st_R σ 1 h0)) rfl d_X_init_93 ?_
        refine lv_iload_n hx hb d_X_init_96 rfl (lv_at hl 1 rfl) ?_
        refine ms_new (σ := σ) (ci := 3) (fs := df_3) (C := R_Currency) (T := T_Currency) (N := 1) hx hb hts in_3 ty_Currency ty_Currency_ok hown (hts _ wd_19) (hts _ wd_67) (hts _ wd_3) hK hH hS hA rfl dfl_3 (by show (15 + (5 - (n + 1)) * 1) + 1 ≤ 21; omega) (by show (602 + (5 - (n + 1)) * 1) + 1 ≤ 611; omega) d_X_init_97 rfl (new_3 σ) (fun q_100 H f_103 hH hK hS => ?_)
        obtain ⟨σ_101, z_102⟩ : ∃ y : ST, y = st_new σ q_100 3 := ⟨_, rfl⟩
        rw [← z_102] at hH hK
        have h := h q_100 f_103 σ_101 z_102
        have t_104 : st_tg σ_101 h0 = some 0 := by rw [z_102, g_tg_new, if_neg (fun y => by rw [y, f_103] at t_99; cases t_99)]; exact t_99
        have t_105 : st_tg σ_101 q_100 = some 3 := by rw [z_102, g_tg_new, if_pos rfl]
        refine W.cs (cells' := (16 + (5 - (n + 1)) * 1)) (slots' := (603 + (5 - (n + 1)) * 1)) (by omega) (by omega) ?_
        refine lv_dup hx hb d_X_init_100 (cat_rf _) ?_
        refine ms_callv (va_runIN (As := []) (rest := [va_rf (some q_100), .int v1, va_rf (st_R σ 1 h0)]) ⟨hx, hb, hml, hown, hts⟩ (mc_Currency_init l D A σ_101 q_100 _) ⟨(va_cnB 0 hts gw_Currency_init rfl rfl rfl (hn _ wd_68 rfl) (hts _ wd_3) (by decide +kernel) ⟨by decide, by decide⟩), rfl, (hts _ wd_69)⟩ ⟨mw_blind, fun U hU hW => ⟨rfl, mw_pass hH hK hA hS hU hW, mn_warm hW hn, h⟩⟩ rfl rfl hl.1 rfl (lv_room (by simp [cat_rf, cat_i, cat_l, cat_r])) d_X_init_101 ⟨by show (16 + (5 - (n + 1)) * 1) + 0 ≤ 21; omega, by show (603 + (5 - (n + 1)) * 1) + 0 ≤ 611; omega⟩) hS (fun σ_107 H locs h hH hK hS => ?_)
        refine W.cs (cells' := (16 + (5 - (n + 1)) * 1)) (slots' := (603 + (5 - (n + 1)) * 1)) (by omega) (by omega) ?_
        obtain ⟨a_108, e_109, t_110, h⟩ := h
        obtain ⟨b_111, h⟩ := h
        obtain ⟨o_112, h⟩ := h
        obtain ⟨σ_113, z_114⟩ : ∃ y : ST, y = st_uR σ_107 a_108 (Int32.toNatClampNeg v1) (some q_100) := ⟨_, rfl⟩
        have h := h σ_113 z_114
        refine ms_aast (σ := σ_107) (r := (st_R σ 1 h0)) (a := a_108) (x := some q_100) (w := (R_Currency, T_Currency, 1)) (ci := 3) hx hb rfl hK hH hS e_109 t_110 rfl (cell_313 t_110) (fun y hy => ⟨_, cell_3 (o_112 y hy)⟩) b_111 d_X_init_104 (σ1 := σ_113) (by rw [z_114]; exact uput_313 σ_107 a_108 _ (some q_100) t_110) (by rw [z_114]; rfl) (by rw [z_114]; rfl) (fun H locs hH hK hS => ?_)
        have t_115 : st_tg σ_113 a_108 = some 313 := by rw [z_114]; exact t_110
        obtain ⟨x_116, q_117⟩ : ∃ y : Int32, y = v1 + 1 := ⟨_, rfl⟩
        have h := h x_116 q_117
        refine lv_iinc (v := x_116) (lv' := [(1, .int x_116), (0, va_rf (some h0))]) hx hb d_X_init_105 hl (k := 1) rfl (by rw [q_117]; rfl) (by decide) rfl (fun ls hl => ?_)
        refine lv_goto (tgt := 87) hx hb d_X_init_108 (by decide) ?_
        refine W.widen (k := 15 + (5 - n) * 1) (n := 602 + (5 - n) * 1) (by omega) (by omega) ?_
        exact ih (by omega) _ _ _ _ _ hH hK hS (lv_sub hl [1, 0] rfl) h
  have b_59 : ∀ (n : Nat), n ≤ 9 → ∀ (σ : ST) (v1 : Int32) (H : Heap) (locs : List Loc) (ls : Array Slot), mg_H D vwCl A (st_cell σ) H → mk_K D σ s → va_S A s.heap H locs → lv_has ls 2 [(0, va_rf (some h0)), (1, .int v1)] → wb_X_init_59 h0 K n σ v1 → W p l e (headSpec ws_X_init ROOM_X_init).room s m ([.ref h0] : List Value).toArray below meth c H locs (6 + (9 - n) * 1) (521 + (9 - n) * 9) (MQ below (va_Qv K (mw D A) A) ([.ref h0] : List Value).toArray s 21 611 A) (F0 m 59 ls []) := by
    intro n
    induction n with
    | zero =>
      intro hN σ v1 H locs ls hH hK hS hl h
      exact h.elim
    | succ n ih =>
      intro hN σ v1 H locs ls hH hK hS hl h
      unfold wb_X_init_59 at h
      refine lv_iload_n hx hb d_X_init_59 rfl (lv_at hl 1 rfl) ?_
      refine lv_bipush (v := 8) hx hb d_X_init_60 (by decide) ?_
      refine lv_icmp_ge (tgt := 85) hx hb d_X_init_62 (by decide) (fun c_97 => ?_) (fun c_97 => ?_)
      · have h := h.1 c_97
        refine W.widen (k := 15) (n := 602) (by omega) (by omega) ?_
        refine lv_iconst (v := 0) hx hb d_X_init_85 (by decide) ?_
        refine lv_istore_n (lv' := [(1, .int 0), (0, va_rf (some h0))]) hx hb d_X_init_86 rfl hl (by decide) rfl (fun ls hl => ?_)
        obtain ⟨n, hN, h⟩ := h
        refine W.widen (k := 15 + (5 - n) * 1) (n := 602 + (5 - n) * 1) (by omega) (by omega) ?_
        exact b_87 n hN _ _ _ _ _ hH hK hS (lv_sub hl [1, 0] rfl) h
      · have h := h.2 c_97
        refine mr_aload_n hx hb d_X_init_65 rfl (lv_at hl 0 rfl) ?_
        obtain ⟨t_118, h⟩ := h
        refine ms_get (σ := σ) (r := some h0) (a := h0) (fs := fl_0 σ h0) (ci := 0) (C := R_X) (T := T_X) (N := 10) hx hb hts in_0 hown hK hH rfl (cell_0 t_118) rfl 0 (by decide) (hts _ wd_79) (fun _ h9 => h9) (v := va_rf (st_R σ 0 h0)) rfl d_X_init_66 ?_
        refine lv_iload_n hx hb d_X_init_69 rfl (lv_at hl 1 rfl) ?_
        refine ms_new (σ := σ) (ci := 4) (fs := df_4) (C := R_Office) (T := T_Office) (N := 9) hx hb hts in_4 ty_Office ty_Office_ok hown (hts _ wd_17) (hts _ wd_27) (hts _ wd_2) hK hH hS hA rfl dfl_4 (by show (6 + (9 - (n + 1)) * 1) + 1 ≤ 21; omega) (by show (521 + (9 - (n + 1)) * 9) + 9 ≤ 611; omega) d_X_init_70 rfl (new_4 σ) (fun q_119 H f_122 hH hK hS => ?_)
        obtain ⟨σ_120, z_121⟩ : ∃ y : ST, y = st_new σ q_119 4 := ⟨_, rfl⟩
        rw [← z_121] at hH hK
        have h := h q_119 f_122 σ_120 z_121
        have t_123 : st_tg σ_120 h0 = some 0 := by rw [z_121, g_tg_new, if_neg (fun y => by rw [y, f_122] at t_118; cases t_118)]; exact t_118
        have t_124 : st_tg σ_120 q_119 = some 4 := by rw [z_121, g_tg_new, if_pos rfl]
        refine W.cs (cells' := (7 + (9 - (n + 1)) * 1)) (slots' := (530 + (9 - (n + 1)) * 9)) (by omega) (by omega) ?_
        refine lv_dup hx hb d_X_init_73 (cat_rf _) ?_
        refine lv_iload_n hx hb d_X_init_74 rfl (lv_at hl 1 rfl) ?_
        refine ms_callv (va_runI (As := [.int v1]) (rest := [va_rf (some q_119), .int v1, va_rf (st_R σ 0 h0)]) ⟨hx, hb, hml, hown, hts⟩ (mc_Office_init l D A σ_120 q_119 v1 _) ⟨(callB_of 1 hts gw_Office_init rfl rfl rfl (hts _ wd_2) (hts _ wd_28) (by decide +kernel) ⟨by decide, by decide⟩), rfl, (hts _ wd_29)⟩ ⟨mw_blind, fun U hU hW => ⟨rfl, mw_pass hH hK hA hS hU hW, mn_warm hW hn, h⟩⟩ rfl rfl hl.1 rfl (lv_room (by simp [cat_rf, cat_i, cat_l, cat_r])) d_X_init_75 ⟨by show (7 + (9 - (n + 1)) * 1) + 0 ≤ 21; omega, by show (530 + (9 - (n + 1)) * 9) + 0 ≤ 611; omega⟩) hS (fun σ_126 H locs h hH hK hS => ?_)
        refine W.cs (cells' := (7 + (9 - (n + 1)) * 1)) (slots' := (530 + (9 - (n + 1)) * 9)) (by omega) (by omega) ?_
        obtain ⟨a_127, e_128, t_129, h⟩ := h
        obtain ⟨b_130, h⟩ := h
        obtain ⟨o_131, h⟩ := h
        obtain ⟨σ_132, z_133⟩ : ∃ y : ST, y = st_uR σ_126 a_127 (Int32.toNatClampNeg v1) (some q_119) := ⟨_, rfl⟩
        have h := h σ_132 z_133
        refine ms_aast (σ := σ_126) (r := (st_R σ 0 h0)) (a := a_127) (x := some q_119) (w := (R_Office, T_Office, 9)) (ci := 4) hx hb rfl hK hH hS e_128 t_129 rfl (cell_314 t_129) (fun y hy => ⟨_, cell_4 (o_131 y hy)⟩) b_130 d_X_init_78 (σ1 := σ_132) (by rw [z_133]; exact uput_314 σ_126 a_127 _ (some q_119) t_129) (by rw [z_133]; rfl) (by rw [z_133]; rfl) (fun H locs hH hK hS => ?_)
        have t_134 : st_tg σ_132 a_127 = some 314 := by rw [z_133]; exact t_129
        obtain ⟨x_135, q_136⟩ : ∃ y : Int32, y = v1 + 1 := ⟨_, rfl⟩
        have h := h x_135 q_136
        refine lv_iinc (v := x_135) (lv' := [(1, .int x_135), (0, va_rf (some h0))]) hx hb d_X_init_79 hl (k := 1) rfl (by rw [q_136]; rfl) (by decide) rfl (fun ls hl => ?_)
        refine lv_goto (tgt := 59) hx hb d_X_init_82 (by decide) ?_
        refine W.widen (k := 6 + (9 - n) * 1) (n := 521 + (9 - n) * 9) (by omega) (by omega) ?_
        exact ih (by omega) _ _ _ _ _ hH hK hS (lv_sub hl [1, 0] rfl) h
  have hS : va_S A s.heap s.heap [] := va_S.rf
  have hl := lv_entry ([.ref h0]) (n := 2) (Nat.le_of_ble_eq_true rfl)
  rw [lg_entry_eq]
  generalize (lg_sl ([.ref h0]) ++ List.replicate (2 - (lg_sl ([.ref h0])).length) Slot.unset).toArray = ls at hl ⊢
  have hl : lv_has ls 2 [(0, va_rf (some h0))] := hl
  unfold wp_X_init at h
  refine mr_aload_n hx hb d_X_init_0 rfl (lv_at hl 0 rfl) ?_
  refine W.objInit hx hb hown (hts _ wd_14) (hts _ wd_15) (hts _ wd_16) rfl (by rw [hml]; exact hl.1) rfl d_X_init_1 (Nat.le_of_ble_eq_true rfl) (Nat.le_of_ble_eq_true rfl) ?_
  refine W.eq (g2 := F0 m 4 ls []) rfl ?_
  refine mr_aload_n hx hb d_X_init_4 rfl (lv_at hl 0 rfl) ?_
  refine lv_bipush (v := 8) hx hb d_X_init_5 (by decide) ?_
  refine ms_newq (σ := σ) (C := R_Office) hx hb hown (hts _ wd_17) (va_AO.of (A := #[]) (hn _ wd_18 rfl)) hK hH hS hA 314 rfl (n := 8) (N' := 8) (by decide) (by decide) (by decide) (by decide) (by decide) d_X_init_7 (fun q cA hq => anew_314 σ q cA 8 hq) (fun q_1 C_2 H f_5 hH hK hS => ?_)
  obtain ⟨σ_3, z_4⟩ : ∃ y : ST, y = st_arr σ q_1 314 C_2 8 := ⟨_, rfl⟩
  rw [← z_4] at hH hK
  have h := h q_1 C_2 f_5 σ_3 z_4
  have t_6 : st_tg σ_3 q_1 = some 314 := by rw [z_4, g_tg_arr, if_pos rfl]
  obtain ⟨t_7, h⟩ := h
  obtain ⟨σ_8, z_9⟩ : ∃ y : ST, y = st_sR σ_3 0 h0 (some q_1) := ⟨_, rfl⟩
  have h := h σ_8 z_9
  refine ms_putF (σ := σ_3) (r := some h0) (a := h0) (fs := fl_0 σ_3 h0) (ci := 0) (C := R_X) (T := T_X) (N := 10) (v := va_rf (some q_1)) (ty := (.array (.object "OrderMoney$Office"))) hx hb hts in_0 ty_X ty_X_ok nm_X hown hK hH hS rfl (cell_0 t_7) rfl 0 (by decide) (hts _ wd_79) (fun _ h9 => h9) rfl hin rfl (by decide +kernel) (nar_ra _ _) (fit_ra _ _) (Nat.le_of_ble_eq_true rfl) d_X_init_10 (σ1 := σ_8) (by rw [z_9]; exact put_0_0 σ_3 h0 (some q_1) t_7) (by rw [z_9]; rfl) (by rw [z_9]; rfl) (fun H locs hH hK hS => ?_)
  have t_10 : st_tg σ_8 q_1 = some 314 := by rw [z_9]; exact t_6
  have t_11 : st_tg σ_8 h0 = some 0 := by rw [z_9]; exact t_7
  refine mr_aload_n hx hb d_X_init_13 rfl (lv_at hl 0 rfl) ?_
  refine lv_iconst (v := 4) hx hb d_X_init_14 (by decide) ?_
  refine ms_newq (σ := σ_8) (C := R_Currency) hx hb hown (hts _ wd_19) (va_AO.of (A := #[]) (hn _ wd_20 rfl)) hK hH hS hA 313 rfl (n := 4) (N' := 4) (by decide) (by decide) (by decide) (by decide) (by decide) d_X_init_15 (fun q cA hq => anew_313 σ_8 q cA 4 hq) (fun q_12 C_13 H f_16 hH hK hS => ?_)
  obtain ⟨σ_14, z_15⟩ : ∃ y : ST, y = st_arr σ_8 q_12 313 C_13 4 := ⟨_, rfl⟩
  rw [← z_15] at hH hK
  have h := h q_12 C_13 f_16 σ_14 z_15
  have t_17 : st_tg σ_14 q_1 = some 314 := by rw [z_15, g_tg_arr, if_neg (fun y => by rw [y, f_16] at t_10; cases t_10)]; exact t_10
  have t_18 : st_tg σ_14 h0 = some 0 := by rw [z_15, g_tg_arr, if_neg (fun y => by rw [y, f_16] at t_11; cases t_11)]; exact t_11
  have t_19 : st_tg σ_14 q_12 = some 313 := by rw [z_15, g_tg_arr, if_pos rfl]
  obtain ⟨σ_20, z_21⟩ : ∃ y : ST, y = st_sR σ_14 1 h0 (some q_12) := ⟨_, rfl⟩
  have h := h σ_20 z_21
  refine ms_putF (σ := σ_14) (r := some h0) (a := h0) (fs := fl_0 σ_14 h0) (ci := 0) (C := R_X) (T := T_X) (N := 10) (v := va_rf (some q_12)) (ty := (.array (.object "OrderMoney$Currency"))) hx hb hts in_0 ty_X ty_X_ok nm_X hown hK hH hS rfl (cell_0 t_18) rfl 1 (by decide) (hts _ wd_80) (fun _ h9 => h9) rfl hin rfl (by decide +kernel) (nar_ra _ _) (fit_ra _ _) (Nat.le_of_ble_eq_true rfl) d_X_init_18 (σ1 := σ_20) (by rw [z_21]; exact put_0_1 σ_14 h0 (some q_12) t_18) (by rw [z_21]; rfl) (by rw [z_21]; rfl) (fun H locs hH hK hS => ?_)
  have t_22 : st_tg σ_20 q_1 = some 314 := by rw [z_21]; exact t_17
  have t_23 : st_tg σ_20 h0 = some 0 := by rw [z_21]; exact t_18
  have t_24 : st_tg σ_20 q_12 = some 313 := by rw [z_21]; exact t_19
  refine mr_aload_n hx hb d_X_init_21 rfl (lv_at hl 0 rfl) ?_
  refine lv_sipush (v := 300) hx hb d_X_init_22 (by decide) ?_
  refine ms_newq (σ := σ_20) (C := R_Order) hx hb hown (hts _ wd_21) (va_AO.of (A := #[]) (hn _ wd_22 rfl)) hK hH hS hA 315 rfl (n := 300) (N' := 300) (by decide) (by decide) (by decide) (by decide) (by decide) d_X_init_25 (fun q cA hq => anew_315 σ_20 q cA 300 hq) (fun q_25 C_26 H f_29 hH hK hS => ?_)
  obtain ⟨σ_27, z_28⟩ : ∃ y : ST, y = st_arr σ_20 q_25 315 C_26 300 := ⟨_, rfl⟩
  rw [← z_28] at hH hK
  have h := h q_25 C_26 f_29 σ_27 z_28
  have t_30 : st_tg σ_27 q_1 = some 314 := by rw [z_28, g_tg_arr, if_neg (fun y => by rw [y, f_29] at t_22; cases t_22)]; exact t_22
  have t_31 : st_tg σ_27 h0 = some 0 := by rw [z_28, g_tg_arr, if_neg (fun y => by rw [y, f_29] at t_23; cases t_23)]; exact t_23
  have t_32 : st_tg σ_27 q_12 = some 313 := by rw [z_28, g_tg_arr, if_neg (fun y => by rw [y, f_29] at t_24; cases t_24)]; exact t_24
  have t_33 : st_tg σ_27 q_25 = some 315 := by rw [z_28, g_tg_arr, if_pos rfl]
  obtain ⟨σ_34, z_35⟩ : ∃ y : ST, y = st_sR σ_27 2 h0 (some q_25) := ⟨_, rfl⟩
  have h := h σ_34 z_35
  refine ms_putF (σ := σ_27) (r := some h0) (a := h0) (fs := fl_0 σ_27 h0) (ci := 0) (C := R_X) (T := T_X) (N := 10) (v := va_rf (some q_25)) (ty := (.array (.object "OrderMoney$Order"))) hx hb hts in_0 ty_X ty_X_ok nm_X hown hK hH hS rfl (cell_0 t_31) rfl 2 (by decide) (hts _ wd_81) (fun _ h9 => h9) rfl hin rfl (by decide +kernel) (nar_ra _ _) (fit_ra _ _) (Nat.le_of_ble_eq_true rfl) d_X_init_28 (σ1 := σ_34) (by rw [z_35]; exact put_0_2 σ_27 h0 (some q_25) t_31) (by rw [z_35]; rfl) (by rw [z_35]; rfl) (fun H locs hH hK hS => ?_)
  have t_36 : st_tg σ_34 q_1 = some 314 := by rw [z_35]; exact t_30
  have t_37 : st_tg σ_34 h0 = some 0 := by rw [z_35]; exact t_31
  have t_38 : st_tg σ_34 q_12 = some 313 := by rw [z_35]; exact t_32
  have t_39 : st_tg σ_34 q_25 = some 315 := by rw [z_35]; exact t_33
  refine mr_aload_n hx hb d_X_init_31 rfl (lv_at hl 0 rfl) ?_
  refine lv_bipush (v := 100) hx hb d_X_init_32 (by decide) ?_
  refine ms_newq (σ := σ_34) (C := R_Try) hx hb hown (hts _ wd_23) (va_AO.of (A := #[]) (hn _ wd_24 rfl)) hK hH hS hA 316 rfl (n := 100) (N' := 100) (by decide) (by decide) (by decide) (by decide) (by decide) d_X_init_34 (fun q cA hq => anew_316 σ_34 q cA 100 hq) (fun q_40 C_41 H f_44 hH hK hS => ?_)
  obtain ⟨σ_42, z_43⟩ : ∃ y : ST, y = st_arr σ_34 q_40 316 C_41 100 := ⟨_, rfl⟩
  rw [← z_43] at hH hK
  have h := h q_40 C_41 f_44 σ_42 z_43
  have t_45 : st_tg σ_42 q_1 = some 314 := by rw [z_43, g_tg_arr, if_neg (fun y => by rw [y, f_44] at t_36; cases t_36)]; exact t_36
  have t_46 : st_tg σ_42 h0 = some 0 := by rw [z_43, g_tg_arr, if_neg (fun y => by rw [y, f_44] at t_37; cases t_37)]; exact t_37
  have t_47 : st_tg σ_42 q_12 = some 313 := by rw [z_43, g_tg_arr, if_neg (fun y => by rw [y, f_44] at t_38; cases t_38)]; exact t_38
  have t_48 : st_tg σ_42 q_25 = some 315 := by rw [z_43, g_tg_arr, if_neg (fun y => by rw [y, f_44] at t_39; cases t_39)]; exact t_39
  have t_49 : st_tg σ_42 q_40 = some 316 := by rw [z_43, g_tg_arr, if_pos rfl]
  obtain ⟨σ_50, z_51⟩ : ∃ y : ST, y = st_sR σ_42 4 h0 (some q_40) := ⟨_, rfl⟩
  have h := h σ_50 z_51
  refine ms_putF (σ := σ_42) (r := some h0) (a := h0) (fs := fl_0 σ_42 h0) (ci := 0) (C := R_X) (T := T_X) (N := 10) (v := va_rf (some q_40)) (ty := (.array (.object "OrderMoney$Try"))) hx hb hts in_0 ty_X ty_X_ok nm_X hown hK hH hS rfl (cell_0 t_46) rfl 4 (by decide) (hts _ wd_83) (fun _ h9 => h9) rfl hin rfl (by decide +kernel) (nar_ra _ _) (fit_ra _ _) (Nat.le_of_ble_eq_true rfl) d_X_init_37 (σ1 := σ_50) (by rw [z_51]; exact put_0_4 σ_42 h0 (some q_40) t_46) (by rw [z_51]; rfl) (by rw [z_51]; rfl) (fun H locs hH hK hS => ?_)
  have t_52 : st_tg σ_50 q_1 = some 314 := by rw [z_51]; exact t_45
  have t_53 : st_tg σ_50 h0 = some 0 := by rw [z_51]; exact t_46
  have t_54 : st_tg σ_50 q_12 = some 313 := by rw [z_51]; exact t_47
  have t_55 : st_tg σ_50 q_25 = some 315 := by rw [z_51]; exact t_48
  have t_56 : st_tg σ_50 q_40 = some 316 := by rw [z_51]; exact t_49
  refine mr_aload_n hx hb d_X_init_40 rfl (lv_at hl 0 rfl) ?_
  refine lv_bipush (v := 100) hx hb d_X_init_41 (by decide) ?_
  refine ms_newq (σ := σ_50) (C := R_Collected) hx hb hown (hts _ wd_25) (va_AO.of (A := #[]) (hn _ wd_26 rfl)) hK hH hS hA 312 rfl (n := 100) (N' := 100) (by decide) (by decide) (by decide) (by decide) (by decide) d_X_init_43 (fun q cA hq => anew_312 σ_50 q cA 100 hq) (fun q_57 C_58 H f_61 hH hK hS => ?_)
  obtain ⟨σ_59, z_60⟩ : ∃ y : ST, y = st_arr σ_50 q_57 312 C_58 100 := ⟨_, rfl⟩
  rw [← z_60] at hH hK
  have h := h q_57 C_58 f_61 σ_59 z_60
  have t_62 : st_tg σ_59 q_1 = some 314 := by rw [z_60, g_tg_arr, if_neg (fun y => by rw [y, f_61] at t_52; cases t_52)]; exact t_52
  have t_63 : st_tg σ_59 h0 = some 0 := by rw [z_60, g_tg_arr, if_neg (fun y => by rw [y, f_61] at t_53; cases t_53)]; exact t_53
  have t_64 : st_tg σ_59 q_12 = some 313 := by rw [z_60, g_tg_arr, if_neg (fun y => by rw [y, f_61] at t_54; cases t_54)]; exact t_54
  have t_65 : st_tg σ_59 q_25 = some 315 := by rw [z_60, g_tg_arr, if_neg (fun y => by rw [y, f_61] at t_55; cases t_55)]; exact t_55
  have t_66 : st_tg σ_59 q_40 = some 316 := by rw [z_60, g_tg_arr, if_neg (fun y => by rw [y, f_61] at t_56; cases t_56)]; exact t_56
  have t_67 : st_tg σ_59 q_57 = some 312 := by rw [z_60, g_tg_arr, if_pos rfl]
  obtain ⟨σ_68, z_69⟩ : ∃ y : ST, y = st_sR σ_59 7 h0 (some q_57) := ⟨_, rfl⟩
  have h := h σ_68 z_69
  refine ms_putF (σ := σ_59) (r := some h0) (a := h0) (fs := fl_0 σ_59 h0) (ci := 0) (C := R_X) (T := T_X) (N := 10) (v := va_rf (some q_57)) (ty := (.array (.object "OrderMoney$Collected"))) hx hb hts in_0 ty_X ty_X_ok nm_X hown hK hH hS rfl (cell_0 t_63) rfl 7 (by decide) (hts _ wd_86) (fun _ h9 => h9) rfl hin rfl (by decide +kernel) (nar_ra _ _) (fit_ra _ _) (Nat.le_of_ble_eq_true rfl) d_X_init_46 (σ1 := σ_68) (by rw [z_69]; exact put_0_7 σ_59 h0 (some q_57) t_63) (by rw [z_69]; rfl) (by rw [z_69]; rfl) (fun H locs hH hK hS => ?_)
  have t_70 : st_tg σ_68 q_1 = some 314 := by rw [z_69]; exact t_62
  have t_71 : st_tg σ_68 h0 = some 0 := by rw [z_69]; exact t_63
  have t_72 : st_tg σ_68 q_12 = some 313 := by rw [z_69]; exact t_64
  have t_73 : st_tg σ_68 q_25 = some 315 := by rw [z_69]; exact t_65
  have t_74 : st_tg σ_68 q_40 = some 316 := by rw [z_69]; exact t_66
  have t_75 : st_tg σ_68 q_57 = some 312 := by rw [z_69]; exact t_67
  refine mr_aload_n hx hb d_X_init_49 rfl (lv_at hl 0 rfl) ?_
  refine lv_bipush (v := 9) hx hb d_X_init_50 (by decide) ?_
  refine ms_newa (σ := σ_68) (atype := .long) (y := .inr (.inl (fun _ => 0))) hx hb (hts _ wd_66) rfl hK hH hS hA 302 rfl (n := 9) (N' := 9) (fun cA => rfl) (by decide) (by decide) (by decide) (by decide) (by decide) d_X_init_52 (fun q cA hq => anew_302 σ_68 q cA 9 hq) (fun q_76 C_77 H f_80 hH hK hS => ?_)
  obtain ⟨σ_78, z_79⟩ : ∃ y : ST, y = st_arr σ_68 q_76 302 C_77 9 := ⟨_, rfl⟩
  rw [← z_79] at hH hK
  have h := h q_76 C_77 f_80 σ_78 z_79
  have t_81 : st_tg σ_78 q_1 = some 314 := by rw [z_79, g_tg_arr, if_neg (fun y => by rw [y, f_80] at t_70; cases t_70)]; exact t_70
  have t_82 : st_tg σ_78 h0 = some 0 := by rw [z_79, g_tg_arr, if_neg (fun y => by rw [y, f_80] at t_71; cases t_71)]; exact t_71
  have t_83 : st_tg σ_78 q_12 = some 313 := by rw [z_79, g_tg_arr, if_neg (fun y => by rw [y, f_80] at t_72; cases t_72)]; exact t_72
  have t_84 : st_tg σ_78 q_25 = some 315 := by rw [z_79, g_tg_arr, if_neg (fun y => by rw [y, f_80] at t_73; cases t_73)]; exact t_73
  have t_85 : st_tg σ_78 q_40 = some 316 := by rw [z_79, g_tg_arr, if_neg (fun y => by rw [y, f_80] at t_74; cases t_74)]; exact t_74
  have t_86 : st_tg σ_78 q_57 = some 312 := by rw [z_79, g_tg_arr, if_neg (fun y => by rw [y, f_80] at t_75; cases t_75)]; exact t_75
  have t_87 : st_tg σ_78 q_76 = some 302 := by rw [z_79, g_tg_arr, if_pos rfl]
  obtain ⟨σ_88, z_89⟩ : ∃ y : ST, y = st_sR σ_78 9 h0 (some q_76) := ⟨_, rfl⟩
  have h := h σ_88 z_89
  refine ms_putF (σ := σ_78) (r := some h0) (a := h0) (fs := fl_0 σ_78 h0) (ci := 0) (C := R_X) (T := T_X) (N := 10) (v := va_rf (some q_76)) (ty := (.array .long)) hx hb hts in_0 ty_X ty_X_ok nm_X hown hK hH hS rfl (cell_0 t_82) rfl 9 (by decide) (hts _ wd_88) (fun _ h9 => h9) rfl hin rfl (by decide +kernel) (nar_ra _ _) (fit_ra _ _) (Nat.le_of_ble_eq_true rfl) d_X_init_54 (σ1 := σ_88) (by rw [z_89]; exact put_0_9 σ_78 h0 (some q_76) t_82) (by rw [z_89]; rfl) (by rw [z_89]; rfl) (fun H locs hH hK hS => ?_)
  have t_90 : st_tg σ_88 q_1 = some 314 := by rw [z_89]; exact t_81
  have t_91 : st_tg σ_88 h0 = some 0 := by rw [z_89]; exact t_82
  have t_92 : st_tg σ_88 q_12 = some 313 := by rw [z_89]; exact t_83
  have t_93 : st_tg σ_88 q_25 = some 315 := by rw [z_89]; exact t_84
  have t_94 : st_tg σ_88 q_40 = some 316 := by rw [z_89]; exact t_85
  have t_95 : st_tg σ_88 q_57 = some 312 := by rw [z_89]; exact t_86
  have t_96 : st_tg σ_88 q_76 = some 302 := by rw [z_89]; exact t_87
  refine lv_iconst (v := 0) hx hb d_X_init_57 (by decide) ?_
  refine lv_istore_n (lv' := [(1, .int 0), (0, va_rf (some h0))]) hx hb d_X_init_58 rfl hl (by decide) rfl (fun ls hl => ?_)
  obtain ⟨n, hN, h⟩ := h
  refine W.widen (k := 6 + (9 - n) * 1) (n := 521 + (9 - n) * 9) (by omega) (by omega) ?_
  exact b_59 n hN _ _ _ _ _ hH hK hS (lv_sub hl [1, 0] rfl) h
def wp_X_officeAt (σ : ST) (h0 : Nat) (p1 : Int32) (K : Option Nat → ST → Prop) : Prop :=
  (((p1 < 0) → K none σ) ∧
  ((¬ p1 < 0) → (((p1 < 8) → st_tg σ h0 = some 0 ∧ (∃ a_4 : Nat, (st_R σ 0 h0) = some a_4 ∧ st_tg σ a_4 = some 314 ∧ (vp_in p1 (st_ln σ a_4) ∧ (K ((st_eR σ a_4 (Int32.toNatClampNeg p1))) σ)))) ∧
  ((¬ p1 < 8) → K none σ))))
abbrev ROOM_X_officeAt : Room := { frames := 0, cells := 0, slots := 0, locals := 0 }
set_option maxHeartbeats 4000000 in
set_option maxRecDepth 100000 in
theorem mc_X_officeAt (l : Launch) (D : va_G) (A : Nat → Prop) (σ : ST) (h0 : Nat) (p1 : Int32) (K : Option Nat → ST → Prop) : Met l y_X_officeAt ws_X_officeAt ROOM_X_officeAt (va_Pc [.ref h0, .int p1] (fun U => mw D A σ U ∧ mn U ∧ wp_X_officeAt σ h0 p1 K)) (va_Qq K (mw D A) A) 0 0 A := by
  refine Met.ofW (cc := c_X_officeAt) (maxL := 2) (ret := (some (.object "OrderMoney$Office"))) (by decide) rfl ?_
  intro p e s m args below meth c s₁ B hml hv
  obtain ⟨rfl, ⟨hH, hK, hA⟩, hn, h⟩ := hv
  have hx := B.exec
  have hb := B.bytes
  have hr := B.returns
  have hts := atoms_spec (ws := ws_X_officeAt) B.pre
  have hown : s.vm.findClass R_X = some m.cls := findClass_of_methodNamed B.named
  have hlocks := B.notSynchronized
  have hts : ∀ w ∈ lw_g, w.before ([.ref h0, .int p1] : List Value).toArray s = true := fun w hw => hts w (List.mem_cons_of_mem _ hw)
  have hS : va_S A s.heap s.heap [] := va_S.rf
  have hl := lv_entry ([.ref h0, .int p1]) (n := 2) (Nat.le_of_ble_eq_true rfl)
  rw [lg_entry_eq]
  generalize (lg_sl ([.ref h0, .int p1]) ++ List.replicate (2 - (lg_sl ([.ref h0, .int p1])).length) Slot.unset).toArray = ls at hl ⊢
  have hl : lv_has ls 2 [(0, va_rf (some h0)), (1, .int p1)] := hl
  unfold wp_X_officeAt at h
  refine lv_iload_n hx hb d_X_officeAt_0 rfl (lv_at hl 1 rfl) ?_
  refine lv_if_lt (tgt := 10) hx hb d_X_officeAt_1 (by decide) (fun c_1 => ?_) (fun c_1 => ?_)
  · have h := h.1 c_1
    refine mr_null hx hb d_X_officeAt_10 ?_
    refine lv_goto (tgt := 20) hx hb d_X_officeAt_11 (by decide) ?_
    exact W.aret (v := va_rf none) hx hb hr (Or.inl ⟨_, rfl⟩) (va_rf_or _) (fun t ht hW => ⟨⟨none, σ, rfl, h, mw_pass hH hK hA hS ht hW⟩, hS.F ht⟩) hS.2.2 d_X_officeAt_20
  · have h := h.2 c_1
    refine lv_iload_n hx hb d_X_officeAt_4 rfl (lv_at hl 1 rfl) ?_
    refine lv_bipush (v := 8) hx hb d_X_officeAt_5 (by decide) ?_
    refine lv_icmp_lt (tgt := 14) hx hb d_X_officeAt_7 (by decide) (fun c_2 => ?_) (fun c_2 => ?_)
    · have h := h.1 c_2
      refine mr_aload_n hx hb d_X_officeAt_14 rfl (lv_at hl 0 rfl) ?_
      obtain ⟨t_3, h⟩ := h
      refine ms_get (σ := σ) (r := some h0) (a := h0) (fs := fl_0 σ h0) (ci := 0) (C := R_X) (T := T_X) (N := 10) hx hb hts in_0 hown hK hH rfl (cell_0 t_3) rfl 0 (by decide) (hts _ wd_79) (fun _ h9 => h9) (v := va_rf (st_R σ 0 h0)) rfl d_X_officeAt_15 ?_
      refine lv_iload_n hx hb d_X_officeAt_18 rfl (lv_at hl 1 rfl) ?_
      obtain ⟨a_4, e_5, t_6, h⟩ := h
      obtain ⟨b_7, h⟩ := h
      refine ms_aald (σ := σ) (r := (st_R σ 0 h0)) (a := a_4) hx hb hK hH e_5 t_6 rfl (cell_314 t_6) b_7 d_X_officeAt_19 ?_
      exact W.aret (v := va_rf (st_eR σ a_4 (Int32.toNatClampNeg p1))) hx hb hr (Or.inl ⟨_, rfl⟩) (va_rf_or _) (fun t ht hW => ⟨⟨(st_eR σ a_4 (Int32.toNatClampNeg p1)), σ, rfl, h, mw_pass hH hK hA hS ht hW⟩, hS.F ht⟩) hS.2.2 d_X_officeAt_20
    · have h := h.2 c_2
      refine mr_null hx hb d_X_officeAt_10 ?_
      refine lv_goto (tgt := 20) hx hb d_X_officeAt_11 (by decide) ?_
      exact W.aret (v := va_rf none) hx hb hr (Or.inl ⟨_, rfl⟩) (va_rf_or _) (fun t ht hW => ⟨⟨none, σ, rfl, h, mw_pass hH hK hA hS ht hW⟩, hS.F ht⟩) hS.2.2 d_X_officeAt_20
def wp_X_currencyAt (σ : ST) (h0 : Nat) (p1 : Int32) (K : Option Nat → ST → Prop) : Prop :=
  (((p1 < 0) → K none σ) ∧
  ((¬ p1 < 0) → (((p1 < 4) → st_tg σ h0 = some 0 ∧ (∃ a_4 : Nat, (st_R σ 1 h0) = some a_4 ∧ st_tg σ a_4 = some 313 ∧ (vp_in p1 (st_ln σ a_4) ∧ (K ((st_eR σ a_4 (Int32.toNatClampNeg p1))) σ)))) ∧
  ((¬ p1 < 4) → K none σ))))
abbrev ROOM_X_currencyAt : Room := { frames := 0, cells := 0, slots := 0, locals := 0 }
set_option maxHeartbeats 4000000 in
set_option maxRecDepth 100000 in
theorem mc_X_currencyAt (l : Launch) (D : va_G) (A : Nat → Prop) (σ : ST) (h0 : Nat) (p1 : Int32) (K : Option Nat → ST → Prop) : Met l y_X_currencyAt ws_X_currencyAt ROOM_X_currencyAt (va_Pc [.ref h0, .int p1] (fun U => mw D A σ U ∧ mn U ∧ wp_X_currencyAt σ h0 p1 K)) (va_Qq K (mw D A) A) 0 0 A := by
  refine Met.ofW (cc := c_X_currencyAt) (maxL := 2) (ret := (some (.object "OrderMoney$Currency"))) (by decide) rfl ?_
  intro p e s m args below meth c s₁ B hml hv
  obtain ⟨rfl, ⟨hH, hK, hA⟩, hn, h⟩ := hv
  have hx := B.exec
  have hb := B.bytes
  have hr := B.returns
  have hts := atoms_spec (ws := ws_X_currencyAt) B.pre
  have hown : s.vm.findClass R_X = some m.cls := findClass_of_methodNamed B.named
  have hlocks := B.notSynchronized
  have hts : ∀ w ∈ lw_g, w.before ([.ref h0, .int p1] : List Value).toArray s = true := fun w hw => hts w (List.mem_cons_of_mem _ hw)
  have hS : va_S A s.heap s.heap [] := va_S.rf
  have hl := lv_entry ([.ref h0, .int p1]) (n := 2) (Nat.le_of_ble_eq_true rfl)
  rw [lg_entry_eq]
  generalize (lg_sl ([.ref h0, .int p1]) ++ List.replicate (2 - (lg_sl ([.ref h0, .int p1])).length) Slot.unset).toArray = ls at hl ⊢
  have hl : lv_has ls 2 [(0, va_rf (some h0)), (1, .int p1)] := hl
  unfold wp_X_currencyAt at h
  refine lv_iload_n hx hb d_X_currencyAt_0 rfl (lv_at hl 1 rfl) ?_
  refine lv_if_lt (tgt := 9) hx hb d_X_currencyAt_1 (by decide) (fun c_1 => ?_) (fun c_1 => ?_)
  · have h := h.1 c_1
    refine mr_null hx hb d_X_currencyAt_9 ?_
    refine lv_goto (tgt := 19) hx hb d_X_currencyAt_10 (by decide) ?_
    exact W.aret (v := va_rf none) hx hb hr (Or.inl ⟨_, rfl⟩) (va_rf_or _) (fun t ht hW => ⟨⟨none, σ, rfl, h, mw_pass hH hK hA hS ht hW⟩, hS.F ht⟩) hS.2.2 d_X_currencyAt_19
  · have h := h.2 c_1
    refine lv_iload_n hx hb d_X_currencyAt_4 rfl (lv_at hl 1 rfl) ?_
    refine lv_iconst (v := 4) hx hb d_X_currencyAt_5 (by decide) ?_
    refine lv_icmp_lt (tgt := 13) hx hb d_X_currencyAt_6 (by decide) (fun c_2 => ?_) (fun c_2 => ?_)
    · have h := h.1 c_2
      refine mr_aload_n hx hb d_X_currencyAt_13 rfl (lv_at hl 0 rfl) ?_
      obtain ⟨t_3, h⟩ := h
      refine ms_get (σ := σ) (r := some h0) (a := h0) (fs := fl_0 σ h0) (ci := 0) (C := R_X) (T := T_X) (N := 10) hx hb hts in_0 hown hK hH rfl (cell_0 t_3) rfl 1 (by decide) (hts _ wd_80) (fun _ h9 => h9) (v := va_rf (st_R σ 1 h0)) rfl d_X_currencyAt_14 ?_
      refine lv_iload_n hx hb d_X_currencyAt_17 rfl (lv_at hl 1 rfl) ?_
      obtain ⟨a_4, e_5, t_6, h⟩ := h
      obtain ⟨b_7, h⟩ := h
      refine ms_aald (σ := σ) (r := (st_R σ 1 h0)) (a := a_4) hx hb hK hH e_5 t_6 rfl (cell_313 t_6) b_7 d_X_currencyAt_18 ?_
      exact W.aret (v := va_rf (st_eR σ a_4 (Int32.toNatClampNeg p1))) hx hb hr (Or.inl ⟨_, rfl⟩) (va_rf_or _) (fun t ht hW => ⟨⟨(st_eR σ a_4 (Int32.toNatClampNeg p1)), σ, rfl, h, mw_pass hH hK hA hS ht hW⟩, hS.F ht⟩) hS.2.2 d_X_currencyAt_19
    · have h := h.2 c_2
      refine mr_null hx hb d_X_currencyAt_9 ?_
      refine lv_goto (tgt := 19) hx hb d_X_currencyAt_10 (by decide) ?_
      exact W.aret (v := va_rf none) hx hb hr (Or.inl ⟨_, rfl⟩) (va_rf_or _) (fun t ht hW => ⟨⟨none, σ, rfl, h, mw_pass hH hK hA hS ht hW⟩, hS.F ht⟩) hS.2.2 d_X_currencyAt_19
def wp_X_isOrderable (σ : ST) (p0 : Int64) (K : Int32 → ST → Prop) : Prop :=
  (((((lg_cmp p0 1)) < 0) → K 0 σ) ∧
  ((¬ ((lg_cmp p0 1)) < 0) → (((0 < ((lg_cmp p0 500000))) → K 0 σ) ∧
  ((¬ 0 < ((lg_cmp p0 500000))) → K 1 σ))))
abbrev ROOM_X_isOrderable : Room := { frames := 0, cells := 0, slots := 0, locals := 0 }
set_option maxHeartbeats 4000000 in
set_option maxRecDepth 100000 in
theorem mc_X_isOrderable (l : Launch) (D : va_G) (A : Nat → Prop) (σ : ST) (p0 : Int64) (K : Int32 → ST → Prop) : Met l y_X_isOrderable ws_X_isOrderable ROOM_X_isOrderable (va_Pc [.long p0] (fun U => mw D A σ U ∧ mn U ∧ wp_X_isOrderable σ p0 K)) (va_Qi K (mw D A) A) 0 0 A := by
  refine Met.ofW (cc := c_X_isOrderable) (maxL := 2) (ret := (some .boolean)) (by decide) rfl ?_
  intro p e s m args below meth c s₁ B hml hv
  obtain ⟨rfl, ⟨hH, hK, hA⟩, hn, h⟩ := hv
  have hx := B.exec
  have hb := B.bytes
  have hr := B.returns
  have hts := atoms_spec (ws := ws_X_isOrderable) B.pre
  have hown : s.vm.findClass R_X = some m.cls := findClass_of_methodNamed B.named
  have hlocks := B.notSynchronized
  have hts : ∀ w ∈ lw_g, w.before ([.long p0] : List Value).toArray s = true := fun w hw => hts w (List.mem_cons_of_mem _ hw)
  have hS : va_S A s.heap s.heap [] := va_S.rf
  have hl := lv_entry ([.long p0]) (n := 2) (Nat.le_of_ble_eq_true rfl)
  rw [lg_entry_eq]
  generalize (lg_sl ([.long p0]) ++ List.replicate (2 - (lg_sl ([.long p0])).length) Slot.unset).toArray = ls at hl ⊢
  have hl : lv_has ls 2 [(0, .long p0)] := hl
  unfold wp_X_isOrderable at h
  refine lv_lload_n hx hb d_X_isOrderable_0 rfl (lv_at hl 0 rfl) ?_
  refine lv_lconst (v := 1) hx hb d_X_isOrderable_1 rfl ?_
  refine W.lcmp hx hb d_X_isOrderable_2 ?_
  refine lv_if_lt (tgt := 18) hx hb d_X_isOrderable_3 (by decide) (fun c_1 => ?_) (fun c_1 => ?_)
  · have h := h.1 c_1
    refine lv_iconst (v := 0) hx hb d_X_isOrderable_18 (by decide) ?_
    exact W.zret (v := 0) hx hb hr rfl (fun t ht hW => ⟨⟨0, σ, rfl, h, mw_pass hH hK hA hS ht hW⟩, hS.F ht⟩) hS.2.2 d_X_isOrderable_19
  · have h := h.2 c_1
    refine lv_lload_n hx hb d_X_isOrderable_6 rfl (lv_at hl 0 rfl) ?_
    refine lv_ldc2 (v := 500000) hx hb hown (hts _ wd_125) d_X_isOrderable_7 ?_
    refine W.lcmp hx hb d_X_isOrderable_10 ?_
    refine lv_if_gt (tgt := 18) hx hb d_X_isOrderable_11 (by decide) (fun c_2 => ?_) (fun c_2 => ?_)
    · have h := h.1 c_2
      refine lv_iconst (v := 0) hx hb d_X_isOrderable_18 (by decide) ?_
      exact W.zret (v := 0) hx hb hr rfl (fun t ht hW => ⟨⟨0, σ, rfl, h, mw_pass hH hK hA hS ht hW⟩, hS.F ht⟩) hS.2.2 d_X_isOrderable_19
    · have h := h.2 c_2
      refine lv_iconst (v := 1) hx hb d_X_isOrderable_14 (by decide) ?_
      refine lv_goto (tgt := 19) hx hb d_X_isOrderable_15 (by decide) ?_
      exact W.zret (v := 1) hx hb hr rfl (fun t ht hW => ⟨⟨1, σ, rfl, h, mw_pass hH hK hA hS ht hW⟩, hS.F ht⟩) hS.2.2 d_X_isOrderable_19
def wb_X_numberOf_6 (K : Int32 → ST → Prop) : Nat → ST → Int32 → Int32 → Int32 → Int32 → Prop
  | 0, _, _, _, _, _ => False
  | n + 1, σ, v0, v1, v2, v3 =>
  (((10 ≤ v3) → K ((((10 * v0)) + ((v1 - v1 / 10 * 10)))) σ) ∧
  ((¬ 10 ≤ v3) → ∀ x_2 : Int32, x_2 = (v1 + ((((v2 - v2 / 10 * 10)) * ((2 + ((v3 - v3 / 6 * 6))))))) → (∀ x_4 : Int32, x_4 = (v2 / 10) → (∀ x_6 : Int32, x_6 = v3 + 1 → (wb_X_numberOf_6 K n σ v0 x_2 x_4 x_6)))))
def wp_X_numberOf (σ : ST) (p0 : Int32) (K : Int32 → ST → Prop) : Prop :=
  ∃ n : Nat, wb_X_numberOf_6 K n σ p0 0 p0 0
abbrev ROOM_X_numberOf : Room := { frames := 0, cells := 0, slots := 0, locals := 0 }
set_option maxHeartbeats 4000000 in
set_option maxRecDepth 100000 in
theorem mc_X_numberOf (l : Launch) (D : va_G) (A : Nat → Prop) (σ : ST) (p0 : Int32) (K : Int32 → ST → Prop) : Met l y_X_numberOf ws_X_numberOf ROOM_X_numberOf (va_Pc [.int p0] (fun U => mw D A σ U ∧ mn U ∧ wp_X_numberOf σ p0 K)) (va_Qi K (mw D A) A) 0 0 A := by
  refine Met.ofW (cc := c_X_numberOf) (maxL := 4) (ret := (some .int)) (by decide) rfl ?_
  intro p e s m args below meth c s₁ B hml hv
  obtain ⟨rfl, ⟨hH, hK, hA⟩, hn, h⟩ := hv
  have hx := B.exec
  have hb := B.bytes
  have hr := B.returns
  have hts := atoms_spec (ws := ws_X_numberOf) B.pre
  have hown : s.vm.findClass R_X = some m.cls := findClass_of_methodNamed B.named
  have hlocks := B.notSynchronized
  have hts : ∀ w ∈ lw_g, w.before ([.int p0] : List Value).toArray s = true := fun w hw => hts w (List.mem_cons_of_mem _ hw)
  have b_6 : ∀ (n : Nat), ∀ (σ : ST) (v0 : Int32) (v1 : Int32) (v2 : Int32) (v3 : Int32) (H : Heap) (locs : List Loc) (ls : Array Slot), mg_H D vwCl A (st_cell σ) H → mk_K D σ s → va_S A s.heap H locs → lv_has ls 4 [(0, .int v0), (1, .int v1), (2, .int v2), (3, .int v3)] → wb_X_numberOf_6 K n σ v0 v1 v2 v3 → W p l e (headSpec ws_X_numberOf ROOM_X_numberOf).room s m ([.int p0] : List Value).toArray below meth c H locs 0 0 (MQ below (va_Qi K (mw D A) A) ([.int p0] : List Value).toArray s 0 0 A) (F0 m 6 ls []) := by
    intro n
    induction n with
    | zero =>
      intro σ v0 v1 v2 v3 H locs ls hH hK hS hl h
      exact h.elim
    | succ n ih =>
      intro σ v0 v1 v2 v3 H locs ls hH hK hS hl h
      unfold wb_X_numberOf_6 at h
      refine lv_iload_n hx hb d_X_numberOf_6 rfl (lv_at hl 3 rfl) ?_
      refine lv_bipush (v := 10) hx hb d_X_numberOf_7 (by decide) ?_
      refine lv_icmp_ge (tgt := 37) hx hb d_X_numberOf_9 (by decide) (fun c_1 => ?_) (fun c_1 => ?_)
      · have h := h.1 c_1
        refine lv_bipush (v := 10) hx hb d_X_numberOf_37 (by decide) ?_
        refine lv_iload_n hx hb d_X_numberOf_39 rfl (lv_at hl 0 rfl) ?_
        refine lv_imul hx hb d_X_numberOf_40 ?_
        refine lv_iload_n hx hb d_X_numberOf_41 rfl (lv_at hl 1 rfl) ?_
        refine lv_bipush (v := 10) hx hb d_X_numberOf_42 (by decide) ?_
        refine lv_irem hx hb d_X_numberOf_44 (by decide) ?_
        refine lv_iadd hx hb d_X_numberOf_45 ?_
        exact W.iret (v := (((10 * v0)) + ((v1 - v1 / 10 * 10)))) hx hb hr (fun t ht hW => ⟨⟨(((10 * v0)) + ((v1 - v1 / 10 * 10))), σ, rfl, h, mw_pass hH hK hA hS ht hW⟩, hS.F ht⟩) hS.2.2 d_X_numberOf_46
      · have h := h.2 c_1
        refine lv_iload_n hx hb d_X_numberOf_12 rfl (lv_at hl 1 rfl) ?_
        refine lv_iload_n hx hb d_X_numberOf_13 rfl (lv_at hl 2 rfl) ?_
        refine lv_bipush (v := 10) hx hb d_X_numberOf_14 (by decide) ?_
        refine lv_irem hx hb d_X_numberOf_16 (by decide) ?_
        refine lv_iconst (v := 2) hx hb d_X_numberOf_17 (by decide) ?_
        refine lv_iload_n hx hb d_X_numberOf_18 rfl (lv_at hl 3 rfl) ?_
        refine lv_bipush (v := 6) hx hb d_X_numberOf_19 (by decide) ?_
        refine lv_irem hx hb d_X_numberOf_21 (by decide) ?_
        refine lv_iadd hx hb d_X_numberOf_22 ?_
        refine lv_imul hx hb d_X_numberOf_23 ?_
        refine lv_iadd hx hb d_X_numberOf_24 ?_
        refine lv_topi (fun x_2 q_3 => ?_)
        have h := h x_2 q_3
        refine lv_istore_n (lv' := [(1, .int x_2), (0, .int v0), (2, .int v2), (3, .int v3)]) hx hb d_X_numberOf_25 rfl hl (by decide) rfl (fun ls hl => ?_)
        refine lv_iload_n hx hb d_X_numberOf_26 rfl (lv_at hl 2 rfl) ?_
        refine lv_bipush (v := 10) hx hb d_X_numberOf_27 (by decide) ?_
        refine lv_idiv hx hb d_X_numberOf_29 (by decide) ?_
        refine lv_topi (fun x_4 q_5 => ?_)
        have h := h x_4 q_5
        refine lv_istore_n (lv' := [(2, .int x_4), (1, .int x_2), (0, .int v0), (3, .int v3)]) hx hb d_X_numberOf_30 rfl hl (by decide) rfl (fun ls hl => ?_)
        obtain ⟨x_6, q_7⟩ : ∃ y : Int32, y = v3 + 1 := ⟨_, rfl⟩
        have h := h x_6 q_7
        refine lv_iinc (v := x_6) (lv' := [(3, .int x_6), (2, .int x_4), (1, .int x_2), (0, .int v0)]) hx hb d_X_numberOf_31 hl (k := 3) rfl (by rw [q_7]; rfl) (by decide) rfl (fun ls hl => ?_)
        refine lv_goto (tgt := 6) hx hb d_X_numberOf_34 (by decide) ?_
        exact ih _ _ _ _ _ _ _ _ hH hK hS (lv_sub hl [3, 2, 1, 0] rfl) h
  have hS : va_S A s.heap s.heap [] := va_S.rf
  have hl := lv_entry ([.int p0]) (n := 4) (Nat.le_of_ble_eq_true rfl)
  rw [lg_entry_eq]
  generalize (lg_sl ([.int p0]) ++ List.replicate (4 - (lg_sl ([.int p0])).length) Slot.unset).toArray = ls at hl ⊢
  have hl : lv_has ls 4 [(0, .int p0)] := hl
  unfold wp_X_numberOf at h
  refine lv_iconst (v := 0) hx hb d_X_numberOf_0 (by decide) ?_
  refine lv_istore_n (lv' := [(1, .int 0), (0, .int p0)]) hx hb d_X_numberOf_1 rfl hl (by decide) rfl (fun ls hl => ?_)
  refine lv_iload_n hx hb d_X_numberOf_2 rfl (lv_at hl 1 rfl) ?_
  refine lv_istore_n (lv' := [(2, .int p0), (1, .int 0), (0, .int p0)]) hx hb d_X_numberOf_3 rfl hl (by decide) rfl (fun ls hl => ?_)
  refine lv_iconst (v := 0) hx hb d_X_numberOf_4 (by decide) ?_
  refine lv_istore_n (lv' := [(3, .int 0), (2, .int p0), (1, .int 0), (0, .int p0)]) hx hb d_X_numberOf_5 rfl hl (by decide) rfl (fun ls hl => ?_)
  obtain ⟨n, h⟩ := h
  exact b_6 n _ _ _ _ _ _ _ _ hH hK hS (lv_sub hl [3, 2, 1, 0] rfl) h
def wp_Order_init (σ : ST) (h0 : Nat) (p1 : Int32) (p2 : Option Nat) (p3 : Int64) (p5 : Int64) (p7 : Option Nat) (p8 : Int32) (K : ST → Prop) : Prop :=
  st_tg σ h0 = some 5 ∧ (∀ σ_2 : ST, σ_2 = st_sI σ 206 h0 0 → (∀ σ_5 : ST, σ_5 = st_sJ σ_2 207 h0 ((-1)) → (∀ σ_8 : ST, σ_8 = st_sI σ_5 200 h0 p1 → (∀ σ_11 : ST, σ_11 = st_sR σ_8 201 h0 p2 → (∀ σ_14 : ST, σ_14 = st_sJ σ_11 202 h0 p3 → (∀ σ_17 : ST, σ_17 = st_sJ σ_14 203 h0 p5 → (∀ σ_20 : ST, σ_20 = st_sR σ_17 204 h0 p7 → (∀ σ_23 : ST, σ_23 = st_sI σ_20 205 h0 p8 → (K σ_23)))))))))
abbrev ROOM_Order_init : Room := { frames := 1, cells := 0, slots := 0, locals := 12 }
set_option maxHeartbeats 4000000 in
set_option maxRecDepth 100000 in
theorem mc_Order_init (l : Launch) (D : va_G) (A : Nat → Prop) (σ : ST) (h0 : Nat) (p1 : Int32) (p2 : Option Nat) (p3 : Int64) (p5 : Int64) (p7 : Option Nat) (p8 : Int32) (K : ST → Prop) : Met l y_Order_init ws_Order_init ROOM_Order_init (va_Pc [.ref h0, .int p1, va_rf p2, .long p3, .long p5, va_rf p7, .int p8] (fun U => mw D A σ U ∧ mn U ∧ wp_Order_init σ h0 p1 p2 p3 p5 p7 p8 K)) (va_Qv K (mw D A) A) 0 0 A := by
  refine Met.ofW (cc := c_Order_init) (maxL := 9) (ret := none) (by decide) rfl ?_
  intro p e s m args below meth c s₁ B hml hv
  obtain ⟨rfl, ⟨hH, hK, hA⟩, hn, h⟩ := hv
  have hx := B.exec
  have hb := B.bytes
  have hr := B.returns
  have hts := atoms_spec (ws := ws_Order_init) B.pre
  have hown : s.vm.findClass R_Order = some m.cls := findClass_of_methodNamed B.named
  have hlocks := B.notSynchronized
  have hin : meth.name = "<init>" := (name_of_methodNamed B.named B.method).1
  have hts : ∀ w ∈ lw_g, w.before ([.ref h0, .int p1, va_rf p2, .long p3, .long p5, va_rf p7, .int p8] : List Value).toArray s = true := fun w hw => hts w (List.mem_cons_of_mem _ hw)
  have hS : va_S A s.heap s.heap [] := va_S.rf
  have hl := lv_entry ([.ref h0, .int p1, va_rf p2, .long p3, .long p5, va_rf p7, .int p8]) (n := 9) (by simp [lg_sl, cat_rf, cat_i, cat_l, cat_r])
  rw [lg_entry_eq]
  generalize (lg_sl ([.ref h0, .int p1, va_rf p2, .long p3, .long p5, va_rf p7, .int p8]) ++ List.replicate (9 - (lg_sl ([.ref h0, .int p1, va_rf p2, .long p3, .long p5, va_rf p7, .int p8])).length) Slot.unset).toArray = ls at hl ⊢
  have hle : lv_args 0 [.ref h0, .int p1, va_rf p2, .long p3, .long p5, va_rf p7, .int p8] = [(0, .ref h0), (1, .int p1), (2, va_rf p2), (3, .long p3), (5, .long p5), (7, va_rf p7), (8, .int p8)] := by simp [lv_args, cat_rf, cat_i, cat_l, cat_r]
  rw [hle] at hl
  have hl : lv_has ls 9 [(0, va_rf (some h0)), (1, .int p1), (2, va_rf p2), (3, .long p3), (5, .long p5), (7, va_rf p7), (8, .int p8)] := hl
  unfold wp_Order_init at h
  refine mr_aload_n hx hb d_Order_init_0 rfl (lv_at hl 0 rfl) ?_
  refine W.objInit hx hb hown (hts _ wd_137) (hts _ wd_15) (hts _ wd_16) rfl (by rw [hml]; exact hl.1) rfl d_Order_init_1 (Nat.le_of_ble_eq_true rfl) (Nat.le_of_ble_eq_true rfl) ?_
  refine W.eq (g2 := F0 m 4 ls []) rfl ?_
  refine mr_aload_n hx hb d_Order_init_4 rfl (lv_at hl 0 rfl) ?_
  refine lv_iconst (v := 0) hx hb d_Order_init_5 (by decide) ?_
  obtain ⟨t_1, h⟩ := h
  obtain ⟨σ_2, z_3⟩ : ∃ y : ST, y = st_sI σ 206 h0 0 := ⟨_, rfl⟩
  have h := h σ_2 z_3
  refine ms_put (σ := σ) (r := some h0) (a := h0) (fs := fl_5 σ h0) (ci := 5) (C := R_Order) (T := T_Order) (N := 11) (v := .int 0) (ty := .int) hx hb hts in_5 ty_Order ty_Order_ok nm_Order hown hK hH hS rfl (cell_5 t_1) rfl 6 (by decide) (hts _ wd_152) (fun _ h9 => h9) rfl (by decide +kernel) rfl rfl (Nat.le_of_ble_eq_true rfl) d_Order_init_6 (σ1 := σ_2) (by rw [z_3]; exact put_5_6 σ h0 0 t_1) (by rw [z_3]; rfl) (by rw [z_3]; rfl) (fun H locs hH hK hS => ?_)
  have t_4 : st_tg σ_2 h0 = some 5 := by rw [z_3]; exact t_1
  refine mr_aload_n hx hb d_Order_init_9 rfl (lv_at hl 0 rfl) ?_
  refine lv_ldc2 (v := (-1)) hx hb hown (hts _ wd_138) d_Order_init_10 ?_
  obtain ⟨σ_5, z_6⟩ : ∃ y : ST, y = st_sJ σ_2 207 h0 ((-1)) := ⟨_, rfl⟩
  have h := h σ_5 z_6
  refine ms_put (σ := σ_2) (r := some h0) (a := h0) (fs := fl_5 σ_2 h0) (ci := 5) (C := R_Order) (T := T_Order) (N := 11) (v := .long (-1)) (ty := .long) hx hb hts in_5 ty_Order ty_Order_ok nm_Order hown hK hH hS rfl (cell_5 t_4) rfl 7 (by decide) (hts _ wd_154) (fun _ h9 => h9) rfl (by decide +kernel) rfl rfl (Nat.le_of_ble_eq_true rfl) d_Order_init_13 (σ1 := σ_5) (by rw [z_6]; exact put_5_7 σ_2 h0 ((-1)) t_4) (by rw [z_6]; rfl) (by rw [z_6]; rfl) (fun H locs hH hK hS => ?_)
  have t_7 : st_tg σ_5 h0 = some 5 := by rw [z_6]; exact t_4
  refine mr_aload_n hx hb d_Order_init_16 rfl (lv_at hl 0 rfl) ?_
  refine lv_iload_n hx hb d_Order_init_17 rfl (lv_at hl 1 rfl) ?_
  obtain ⟨σ_8, z_9⟩ : ∃ y : ST, y = st_sI σ_5 200 h0 p1 := ⟨_, rfl⟩
  have h := h σ_8 z_9
  refine ms_putF (σ := σ_5) (r := some h0) (a := h0) (fs := fl_5 σ_5 h0) (ci := 5) (C := R_Order) (T := T_Order) (N := 11) (v := .int p1) (ty := .int) hx hb hts in_5 ty_Order ty_Order_ok nm_Order hown hK hH hS rfl (cell_5 t_7) rfl 0 (by decide) (hts _ wd_139) (fun _ h9 => h9) rfl hin rfl (by decide +kernel) rfl rfl (Nat.le_of_ble_eq_true rfl) d_Order_init_18 (σ1 := σ_8) (by rw [z_9]; exact put_5_0 σ_5 h0 p1 t_7) (by rw [z_9]; rfl) (by rw [z_9]; rfl) (fun H locs hH hK hS => ?_)
  have t_10 : st_tg σ_8 h0 = some 5 := by rw [z_9]; exact t_7
  refine mr_aload_n hx hb d_Order_init_21 rfl (lv_at hl 0 rfl) ?_
  refine mr_aload_n hx hb d_Order_init_22 rfl (lv_at hl 2 rfl) ?_
  obtain ⟨σ_11, z_12⟩ : ∃ y : ST, y = st_sR σ_8 201 h0 p2 := ⟨_, rfl⟩
  have h := h σ_11 z_12
  refine ms_putF (σ := σ_8) (r := some h0) (a := h0) (fs := fl_5 σ_8 h0) (ci := 5) (C := R_Order) (T := T_Order) (N := 11) (v := va_rf p2) (ty := (.object "OrderMoney$Office")) hx hb hts in_5 ty_Order ty_Order_ok nm_Order hown hK hH hS rfl (cell_5 t_10) rfl 1 (by decide) (hts _ wd_141) (fun _ h9 => h9) rfl hin rfl (by decide +kernel) (nar_rf _ _) (fit_rf _ _) (Nat.le_of_ble_eq_true rfl) d_Order_init_23 (σ1 := σ_11) (by rw [z_12]; exact put_5_1 σ_8 h0 p2 t_10) (by rw [z_12]; rfl) (by rw [z_12]; rfl) (fun H locs hH hK hS => ?_)
  have t_13 : st_tg σ_11 h0 = some 5 := by rw [z_12]; exact t_10
  refine mr_aload_n hx hb d_Order_init_26 rfl (lv_at hl 0 rfl) ?_
  refine lv_lload_n hx hb d_Order_init_27 rfl (lv_at hl 3 rfl) ?_
  obtain ⟨σ_14, z_15⟩ : ∃ y : ST, y = st_sJ σ_11 202 h0 p3 := ⟨_, rfl⟩
  have h := h σ_14 z_15
  refine ms_putF (σ := σ_11) (r := some h0) (a := h0) (fs := fl_5 σ_11 h0) (ci := 5) (C := R_Order) (T := T_Order) (N := 11) (v := .long p3) (ty := .long) hx hb hts in_5 ty_Order ty_Order_ok nm_Order hown hK hH hS rfl (cell_5 t_13) rfl 2 (by decide) (hts _ wd_143) (fun _ h9 => h9) rfl hin rfl (by decide +kernel) rfl rfl (Nat.le_of_ble_eq_true rfl) d_Order_init_28 (σ1 := σ_14) (by rw [z_15]; exact put_5_2 σ_11 h0 p3 t_13) (by rw [z_15]; rfl) (by rw [z_15]; rfl) (fun H locs hH hK hS => ?_)
  have t_16 : st_tg σ_14 h0 = some 5 := by rw [z_15]; exact t_13
  refine mr_aload_n hx hb d_Order_init_31 rfl (lv_at hl 0 rfl) ?_
  refine lv_lload hx hb d_Order_init_32 (lv_at hl 4 rfl) ?_
  obtain ⟨σ_17, z_18⟩ : ∃ y : ST, y = st_sJ σ_14 203 h0 p5 := ⟨_, rfl⟩
  have h := h σ_17 z_18
  refine ms_putF (σ := σ_14) (r := some h0) (a := h0) (fs := fl_5 σ_14 h0) (ci := 5) (C := R_Order) (T := T_Order) (N := 11) (v := .long p5) (ty := .long) hx hb hts in_5 ty_Order ty_Order_ok nm_Order hown hK hH hS rfl (cell_5 t_16) rfl 3 (by decide) (hts _ wd_145) (fun _ h9 => h9) rfl hin rfl (by decide +kernel) rfl rfl (Nat.le_of_ble_eq_true rfl) d_Order_init_34 (σ1 := σ_17) (by rw [z_18]; exact put_5_3 σ_14 h0 p5 t_16) (by rw [z_18]; rfl) (by rw [z_18]; rfl) (fun H locs hH hK hS => ?_)
  have t_19 : st_tg σ_17 h0 = some 5 := by rw [z_18]; exact t_16
  refine mr_aload_n hx hb d_Order_init_37 rfl (lv_at hl 0 rfl) ?_
  refine mr_aload hx hb d_Order_init_38 (lv_at hl 5 rfl) ?_
  obtain ⟨σ_20, z_21⟩ : ∃ y : ST, y = st_sR σ_17 204 h0 p7 := ⟨_, rfl⟩
  have h := h σ_20 z_21
  refine ms_putF (σ := σ_17) (r := some h0) (a := h0) (fs := fl_5 σ_17 h0) (ci := 5) (C := R_Order) (T := T_Order) (N := 11) (v := va_rf p7) (ty := (.object "OrderMoney$Currency")) hx hb hts in_5 ty_Order ty_Order_ok nm_Order hown hK hH hS rfl (cell_5 t_19) rfl 4 (by decide) (hts _ wd_147) (fun _ h9 => h9) rfl hin rfl (by decide +kernel) (nar_rf _ _) (fit_rf _ _) (Nat.le_of_ble_eq_true rfl) d_Order_init_40 (σ1 := σ_20) (by rw [z_21]; exact put_5_4 σ_17 h0 p7 t_19) (by rw [z_21]; rfl) (by rw [z_21]; rfl) (fun H locs hH hK hS => ?_)
  have t_22 : st_tg σ_20 h0 = some 5 := by rw [z_21]; exact t_19
  refine mr_aload_n hx hb d_Order_init_43 rfl (lv_at hl 0 rfl) ?_
  refine lv_iload hx hb d_Order_init_44 (lv_at hl 6 rfl) ?_
  obtain ⟨σ_23, z_24⟩ : ∃ y : ST, y = st_sI σ_20 205 h0 p8 := ⟨_, rfl⟩
  have h := h σ_23 z_24
  refine ms_putF (σ := σ_20) (r := some h0) (a := h0) (fs := fl_5 σ_20 h0) (ci := 5) (C := R_Order) (T := T_Order) (N := 11) (v := .int p8) (ty := .int) hx hb hts in_5 ty_Order ty_Order_ok nm_Order hown hK hH hS rfl (cell_5 t_22) rfl 5 (by decide) (hts _ wd_149) (fun _ h9 => h9) rfl hin rfl (by decide +kernel) rfl rfl (Nat.le_of_ble_eq_true rfl) d_Order_init_46 (σ1 := σ_23) (by rw [z_24]; exact put_5_5 σ_20 h0 p8 t_22) (by rw [z_24]; rfl) (by rw [z_24]; rfl) (fun H locs hH hK hS => ?_)
  have t_25 : st_tg σ_23 h0 = some 5 := by rw [z_24]; exact t_22
  exact W.vret hx hb hr (fun t ht hW => ⟨⟨σ_23, rfl, h, mw_pass hH hK hA hS ht hW⟩, hS.F ht⟩) hS.2.2 d_Order_init_49
def wp_X_addOrder (σ : ST) (h0 : Nat) (p1 : Option Nat) (p2 : Int64) (p4 : Int64) (p6 : Option Nat) (p7 : Int32) (K : Int32 → ST → Prop) : Prop :=
  st_tg σ h0 = some 0 ∧ (wp_X_numberOf σ ((((st_I σ 3 h0)) + 1)) (fun (r_2 : Int32) σ_3 =>
  st_tg σ_3 h0 = some 0 ∧ (∀ q_5 : Nat, st_tg σ_3 q_5 = none → ∀ σ_6 : ST, σ_6 = st_new σ_3 q_5 5 → (wp_Order_init σ_6 q_5 r_2 p1 p2 p4 p6 p7 (fun σ_12 =>
  ∃ a_13 : Nat, (st_R σ_3 2 h0) = some a_13 ∧ st_tg σ_12 a_13 = some 315 ∧ (vp_in ((st_I σ_3 3 h0)) (st_ln σ_12 a_13) ∧ ((∀ y : Nat, some q_5 = some y → st_tg σ_12 y = some 5) ∧ (∀ σ_18 : ST, σ_18 = st_uR σ_12 a_13 (Int32.toNatClampNeg ((st_I σ_3 3 h0))) (some q_5) → (st_tg σ_18 h0 = some 0 ∧ (∀ σ_22 : ST, σ_22 = st_sI σ_18 3 h0 ((((st_I σ_18 3 h0)) + 1)) → (K r_2 σ_22)))))))))))
abbrev ROOM_X_addOrder : Room := { frames := 2, cells := 1, slots := 11, locals := 40 }
set_option maxHeartbeats 4000000 in
set_option maxRecDepth 100000 in
theorem mc_X_addOrder (l : Launch) (D : va_G) (A : Nat → Prop) (σ : ST) (h0 : Nat) (p1 : Option Nat) (p2 : Int64) (p4 : Int64) (p6 : Option Nat) (p7 : Int32) (K : Int32 → ST → Prop) : Met l y_X_addOrder ws_X_addOrder ROOM_X_addOrder (va_Pc [.ref h0, va_rf p1, .long p2, .long p4, va_rf p6, .int p7] (fun U => mw D A σ U ∧ mn U ∧ wp_X_addOrder σ h0 p1 p2 p4 p6 p7 K)) (va_Qi K (mw D A) A) 1 11 A := by
  refine Met.ofW (cc := c_X_addOrder) (maxL := 9) (ret := (some .int)) (by decide) rfl ?_
  intro p e s m args below meth c s₁ B hml hv
  obtain ⟨rfl, ⟨hH, hK, hA⟩, hn, h⟩ := hv
  have hx := B.exec
  have hb := B.bytes
  have hr := B.returns
  have hts := atoms_spec (ws := ws_X_addOrder) B.pre
  have hown : s.vm.findClass R_X = some m.cls := findClass_of_methodNamed B.named
  have hlocks := B.notSynchronized
  have hts : ∀ w ∈ lw_g, w.before ([.ref h0, va_rf p1, .long p2, .long p4, va_rf p6, .int p7] : List Value).toArray s = true := fun w hw => hts w (List.mem_cons_of_mem _ hw)
  have hS : va_S A s.heap s.heap [] := va_S.rf
  have hl := lv_entry ([.ref h0, va_rf p1, .long p2, .long p4, va_rf p6, .int p7]) (n := 9) (by simp [lg_sl, cat_rf, cat_i, cat_l, cat_r])
  rw [lg_entry_eq]
  generalize (lg_sl ([.ref h0, va_rf p1, .long p2, .long p4, va_rf p6, .int p7]) ++ List.replicate (9 - (lg_sl ([.ref h0, va_rf p1, .long p2, .long p4, va_rf p6, .int p7])).length) Slot.unset).toArray = ls at hl ⊢
  have hle : lv_args 0 [.ref h0, va_rf p1, .long p2, .long p4, va_rf p6, .int p7] = [(0, .ref h0), (1, va_rf p1), (2, .long p2), (4, .long p4), (6, va_rf p6), (7, .int p7)] := by simp [lv_args, cat_rf, cat_i, cat_l, cat_r]
  rw [hle] at hl
  have hl : lv_has ls 9 [(0, va_rf (some h0)), (1, va_rf p1), (2, .long p2), (4, .long p4), (6, va_rf p6), (7, .int p7)] := hl
  unfold wp_X_addOrder at h
  refine mr_aload_n hx hb d_X_addOrder_0 rfl (lv_at hl 0 rfl) ?_
  obtain ⟨t_1, h⟩ := h
  refine ms_get (σ := σ) (r := some h0) (a := h0) (fs := fl_0 σ h0) (ci := 0) (C := R_X) (T := T_X) (N := 10) hx hb hts in_0 hown hK hH rfl (cell_0 t_1) rfl 3 (by decide) (hts _ wd_82) (fun _ h9 => h9) (v := .int (st_I σ 3 h0)) rfl d_X_addOrder_1 ?_
  refine lv_iconst (v := 1) hx hb d_X_addOrder_4 (by decide) ?_
  refine lv_iadd hx hb d_X_addOrder_5 ?_
  refine ms_calli (va_runS (As := [.int (((st_I σ 3 h0)) + 1)]) (rest := []) ⟨hx, hb, hml, hown, hts⟩ (mc_X_numberOf l D A σ ((((st_I σ 3 h0)) + 1)) _) ⟨(callB_of 1 hts gw_X_numberOf rfl rfl rfl (hts _ wd_1) (hts _ wd_130) (by decide +kernel) ⟨by decide, by decide⟩), (hts _ wd_131)⟩ ⟨mw_blind, fun U hU hW => ⟨rfl, mw_pass hH hK hA hS hU hW, mn_warm hW hn, h⟩⟩ rfl rfl hl.1 rfl (lv_room (Nat.le_of_ble_eq_true rfl)) d_X_addOrder_6 ⟨by decide, by decide⟩) hS (fun r_2 σ_3 H locs h hH hK hS => ?_)
  refine lv_istore (lv' := [(8, .int r_2), (0, va_rf (some h0)), (1, va_rf p1), (2, .long p2), (4, .long p4), (6, va_rf p6), (7, .int p7)]) hx hb d_X_addOrder_9 hl (by decide) rfl (fun ls hl => ?_)
  refine mr_aload_n hx hb d_X_addOrder_11 rfl (lv_at hl 1 rfl) ?_
  obtain ⟨t_4, h⟩ := h
  refine ms_get (σ := σ_3) (r := some h0) (a := h0) (fs := fl_0 σ_3 h0) (ci := 0) (C := R_X) (T := T_X) (N := 10) hx hb hts in_0 hown hK hH rfl (cell_0 t_4) rfl 2 (by decide) (hts _ wd_81) (fun _ h9 => h9) (v := va_rf (st_R σ_3 2 h0)) rfl d_X_addOrder_12 ?_
  refine mr_aload_n hx hb d_X_addOrder_15 rfl (lv_at hl 1 rfl) ?_
  refine ms_get (σ := σ_3) (r := some h0) (a := h0) (fs := fl_0 σ_3 h0) (ci := 0) (C := R_X) (T := T_X) (N := 10) hx hb hts in_0 hown hK hH rfl (cell_0 t_4) rfl 3 (by decide) (hts _ wd_82) (fun _ h9 => h9) (v := .int (st_I σ_3 3 h0)) rfl d_X_addOrder_16 ?_
  refine ms_new (σ := σ_3) (ci := 5) (fs := df_5) (C := R_Order) (T := T_Order) (N := 11) hx hb hts in_5 ty_Order ty_Order_ok hown (hts _ wd_21) (hts _ wd_133) (hts _ wd_5) hK hH hS hA rfl dfl_5 (by decide) (by decide) d_X_addOrder_19 rfl (new_5 σ_3) (fun q_5 H f_8 hH hK hS => ?_)
  obtain ⟨σ_6, z_7⟩ : ∃ y : ST, y = st_new σ_3 q_5 5 := ⟨_, rfl⟩
  rw [← z_7] at hH hK
  have h := h q_5 f_8 σ_6 z_7
  have t_9 : st_tg σ_6 h0 = some 0 := by rw [z_7, g_tg_new, if_neg (fun y => by rw [y, f_8] at t_4; cases t_4)]; exact t_4
  have t_10 : st_tg σ_6 q_5 = some 5 := by rw [z_7, g_tg_new, if_pos rfl]
  refine lv_dup hx hb d_X_addOrder_22 (cat_rf _) ?_
  refine lv_iload hx hb d_X_addOrder_23 (lv_at hl 0 rfl) ?_
  refine mr_aload_n hx hb d_X_addOrder_25 rfl (lv_at hl 2 rfl) ?_
  refine lv_lload_n hx hb d_X_addOrder_26 rfl (lv_at hl 3 rfl) ?_
  refine lv_lload hx hb d_X_addOrder_27 (lv_at hl 4 rfl) ?_
  refine mr_aload hx hb d_X_addOrder_29 (lv_at hl 5 rfl) ?_
  refine lv_iload hx hb d_X_addOrder_31 (lv_at hl 6 rfl) ?_
  refine ms_callv (va_runI (As := [.int r_2, va_rf p1, .long p2, .long p4, va_rf p6, .int p7]) (rest := [va_rf (some q_5), .int (st_I σ_3 3 h0), va_rf (st_R σ_3 2 h0)]) ⟨hx, hb, hml, hown, hts⟩ (mc_Order_init l D A σ_6 q_5 r_2 p1 p2 p4 p6 p7 _) ⟨(callB_of 6 hts gw_Order_init rfl rfl rfl (hts _ wd_5) (hts _ wd_134) (by decide +kernel) ⟨by decide, by decide⟩), rfl, (hts _ wd_135)⟩ ⟨mw_blind, fun U hU hW => ⟨rfl, mw_pass hH hK hA hS hU hW, mn_warm hW hn, h⟩⟩ rfl rfl hl.1 rfl (lv_room (by simp [cat_rf, cat_i, cat_l, cat_r])) d_X_addOrder_33 ⟨by decide, by decide⟩) hS (fun σ_12 H locs h hH hK hS => ?_)
  refine W.cs (cells' := 1) (slots' := 11) rfl rfl ?_
  obtain ⟨a_13, e_14, t_15, h⟩ := h
  obtain ⟨b_16, h⟩ := h
  obtain ⟨o_17, h⟩ := h
  obtain ⟨σ_18, z_19⟩ : ∃ y : ST, y = st_uR σ_12 a_13 (Int32.toNatClampNeg ((st_I σ_3 3 h0))) (some q_5) := ⟨_, rfl⟩
  have h := h σ_18 z_19
  refine ms_aast (σ := σ_12) (r := (st_R σ_3 2 h0)) (a := a_13) (x := some q_5) (w := (R_Order, T_Order, 11)) (ci := 5) hx hb rfl hK hH hS e_14 t_15 rfl (cell_315 t_15) (fun y hy => ⟨_, cell_5 (o_17 y hy)⟩) b_16 d_X_addOrder_36 (σ1 := σ_18) (by rw [z_19]; exact uput_315 σ_12 a_13 _ (some q_5) t_15) (by rw [z_19]; rfl) (by rw [z_19]; rfl) (fun H locs hH hK hS => ?_)
  have t_20 : st_tg σ_18 a_13 = some 315 := by rw [z_19]; exact t_15
  refine mr_aload_n hx hb d_X_addOrder_37 rfl (lv_at hl 1 rfl) ?_
  refine lv_dup hx hb d_X_addOrder_38 (cat_rf _) ?_
  obtain ⟨t_21, h⟩ := h
  refine ms_get (σ := σ_18) (r := some h0) (a := h0) (fs := fl_0 σ_18 h0) (ci := 0) (C := R_X) (T := T_X) (N := 10) hx hb hts in_0 hown hK hH rfl (cell_0 t_21) rfl 3 (by decide) (hts _ wd_82) (fun _ h9 => h9) (v := .int (st_I σ_18 3 h0)) rfl d_X_addOrder_39 ?_
  refine lv_iconst (v := 1) hx hb d_X_addOrder_42 (by decide) ?_
  refine lv_iadd hx hb d_X_addOrder_43 ?_
  obtain ⟨σ_22, z_23⟩ : ∃ y : ST, y = st_sI σ_18 3 h0 ((((st_I σ_18 3 h0)) + 1)) := ⟨_, rfl⟩
  have h := h σ_22 z_23
  refine ms_put (σ := σ_18) (r := some h0) (a := h0) (fs := fl_0 σ_18 h0) (ci := 0) (C := R_X) (T := T_X) (N := 10) (v := .int (((st_I σ_18 3 h0)) + 1)) (ty := .int) hx hb hts in_0 ty_X ty_X_ok nm_X hown hK hH hS rfl (cell_0 t_21) rfl 3 (by decide) (hts _ wd_82) (fun _ h9 => h9) rfl (by decide +kernel) rfl rfl (Nat.le_of_ble_eq_true rfl) d_X_addOrder_44 (σ1 := σ_22) (by rw [z_23]; exact put_0_3 σ_18 h0 ((((st_I σ_18 3 h0)) + 1)) t_21) (by rw [z_23]; rfl) (by rw [z_23]; rfl) (fun H locs hH hK hS => ?_)
  have t_24 : st_tg σ_22 a_13 = some 315 := by rw [z_23]; exact t_20
  have t_25 : st_tg σ_22 h0 = some 0 := by rw [z_23]; exact t_21
  refine lv_iload hx hb d_X_addOrder_47 (lv_at hl 0 rfl) ?_
  exact W.iret (v := r_2) hx hb hr (fun t ht hW => ⟨⟨r_2, σ_22, rfl, h, mw_pass hH hK hA hS ht hW⟩, hS.F ht⟩) hS.2.2 d_X_addOrder_49
end
