def R_X : String := "OrderMoney"
def T_X : u_T := fun k => match k with
  | 0 => ("OrderMoney", "offices", "[LOrderMoney$Office;", true)
  | 1 => ("OrderMoney", "currencies", "[LOrderMoney$Currency;", true)
  | 2 => ("OrderMoney", "orders", "[LOrderMoney$Order;", true)
  | 3 => ("OrderMoney", "orderCount", "I", false)
  | 4 => ("OrderMoney", "tries", "[LOrderMoney$Try;", true)
  | 5 => ("OrderMoney", "asked", "I", false)
  | 6 => ("OrderMoney", "served", "I", false)
  | 7 => ("OrderMoney", "collected", "[LOrderMoney$Collected;", true)
  | 8 => ("OrderMoney", "collectedCount", "I", false)
  | _ => ("OrderMoney", "totals", "[J", true)
def ty_X : Nat → FieldType := fun k => match k with
  | 0 => (.array (.object "OrderMoney$Office"))
  | 1 => (.array (.object "OrderMoney$Currency"))
  | 2 => (.array (.object "OrderMoney$Order"))
  | 3 => .int
  | 4 => (.array (.object "OrderMoney$Try"))
  | 5 => .int
  | 6 => .int
  | 7 => (.array (.object "OrderMoney$Collected"))
  | 8 => .int
  | _ => (.array .long)
theorem nm_X : ∀ a, a < 10 → ∀ b, b < 10 → a ≠ b → (T_X a).2.1 ≠ (T_X b).2.1 := by decide +kernel
theorem ty_X_ok : ∀ k, k < 10 → parseFieldDescriptor (T_X k).2.2.1 = some (ty_X k) := by decide +kernel
theorem in_0 : ∀ w ∈ u_ws R_X T_X 10, w ∈ lw_g := by decide +kernel
def R_M : String := "OrderMoneyModel"
def T_M : u_T := fun k => match k with
  | 0 => ("OrderMoneyModel", "orders", "I", false)
  | 1 => ("OrderMoneyModel", "states", "[I", true)
  | 2 => ("OrderMoneyModel", "cents", "[J", true)
  | 3 => ("OrderMoneyModel", "untils", "[J", true)
  | 4 => ("OrderMoneyModel", "currencies", "[I", true)
  | 5 => ("OrderMoneyModel", "proofs", "[I", true)
  | 6 => ("OrderMoneyModel", "inAt", "[I", true)
  | 7 => ("OrderMoneyModel", "outAt", "[I", true)
  | 8 => ("OrderMoneyModel", "lists", "[I", true)
  | 9 => ("OrderMoneyModel", "barredAt", "[J", true)
  | 10 => ("OrderMoneyModel", "wasBarred", "[Z", true)
  | 11 => ("OrderMoneyModel", "rates", "[J", true)
  | 12 => ("OrderMoneyModel", "tills", "[J", true)
  | 13 => ("OrderMoneyModel", "limits", "[J", true)
  | 14 => ("OrderMoneyModel", "off", "[Z", true)
  | 15 => ("OrderMoneyModel", "failing", "[I", true)
  | 16 => ("OrderMoneyModel", "days", "[J", true)
  | 17 => ("OrderMoneyModel", "paid", "[J", true)
  | 18 => ("OrderMoneyModel", "known", "[I", true)
  | 19 => ("OrderMoneyModel", "knownProofs", "[I", true)
  | 20 => ("OrderMoneyModel", "asked", "I", false)
  | 21 => ("OrderMoneyModel", "served", "I", false)
  | 22 => ("OrderMoneyModel", "askOffice", "[I", true)
  | 23 => ("OrderMoneyModel", "askNumber", "[J", true)
  | 24 => ("OrderMoneyModel", "askProof", "[I", true)
  | 25 => ("OrderMoneyModel", "askTime", "[J", true)
  | 26 => ("OrderMoneyModel", "askAnswer", "[I", true)
  | 27 => ("OrderMoneyModel", "waiting", "I", false)
  | 28 => ("OrderMoneyModel", "sumOffice", "[I", true)
  | 29 => ("OrderMoneyModel", "sumCents", "[J", true)
  | 30 => ("OrderMoneyModel", "sumDay", "[I", true)
  | _ => ("OrderMoneyModel", "totals", "[J", true)
def ty_M : Nat → FieldType := fun k => match k with
  | 0 => .int
  | 1 => (.array .int)
  | 2 => (.array .long)
  | 3 => (.array .long)
  | 4 => (.array .int)
  | 5 => (.array .int)
  | 6 => (.array .int)
  | 7 => (.array .int)
  | 8 => (.array .int)
  | 9 => (.array .long)
  | 10 => (.array .boolean)
  | 11 => (.array .long)
  | 12 => (.array .long)
  | 13 => (.array .long)
  | 14 => (.array .boolean)
  | 15 => (.array .int)
  | 16 => (.array .long)
  | 17 => (.array .long)
  | 18 => (.array .int)
  | 19 => (.array .int)
  | 20 => .int
  | 21 => .int
  | 22 => (.array .int)
  | 23 => (.array .long)
  | 24 => (.array .int)
  | 25 => (.array .long)
  | 26 => (.array .int)
  | 27 => .int
  | 28 => (.array .int)
  | 29 => (.array .long)
  | 30 => (.array .int)
  | _ => (.array .long)
theorem nm_M : ∀ a, a < 32 → ∀ b, b < 32 → a ≠ b → (T_M a).2.1 ≠ (T_M b).2.1 := by decide +kernel
theorem ty_M_ok : ∀ k, k < 32 → parseFieldDescriptor (T_M k).2.2.1 = some (ty_M k) := by decide +kernel
theorem in_1 : ∀ w ∈ u_ws R_M T_M 32, w ∈ lw_g := by decide +kernel
def R_Collected : String := "OrderMoney$Collected"
def T_Collected : u_T := fun k => match k with
  | 0 => ("OrderMoney$Collected", "office", "LOrderMoney$Office;", true)
  | 1 => ("OrderMoney$Collected", "cents", "J", true)
  | _ => ("OrderMoney$Collected", "day", "I", true)
def ty_Collected : Nat → FieldType := fun k => match k with
  | 0 => (.object "OrderMoney$Office")
  | 1 => .long
  | _ => .int
theorem nm_Collected : ∀ a, a < 3 → ∀ b, b < 3 → a ≠ b → (T_Collected a).2.1 ≠ (T_Collected b).2.1 := by decide +kernel
theorem ty_Collected_ok : ∀ k, k < 3 → parseFieldDescriptor (T_Collected k).2.2.1 = some (ty_Collected k) := by decide +kernel
theorem in_2 : ∀ w ∈ u_ws R_Collected T_Collected 3, w ∈ lw_g := by decide +kernel
def R_Currency : String := "OrderMoney$Currency"
def T_Currency : u_T := fun k => match k with
  | _ => ("OrderMoney$Currency", "rate", "J", false)
def ty_Currency : Nat → FieldType := fun k => match k with
  | _ => .long
theorem nm_Currency : ∀ a, a < 1 → ∀ b, b < 1 → a ≠ b → (T_Currency a).2.1 ≠ (T_Currency b).2.1 := by decide +kernel
theorem ty_Currency_ok : ∀ k, k < 1 → parseFieldDescriptor (T_Currency k).2.2.1 = some (ty_Currency k) := by decide +kernel
theorem in_3 : ∀ w ∈ u_ws R_Currency T_Currency 1, w ∈ lw_g := by decide +kernel
def R_Office : String := "OrderMoney$Office"
def T_Office : u_T := fun k => match k with
  | 0 => ("OrderMoney$Office", "place", "I", true)
  | 1 => ("OrderMoney$Office", "cash", "J", false)
  | 2 => ("OrderMoney$Office", "limit", "J", false)
  | 3 => ("OrderMoney$Office", "isCut", "Z", false)
  | 4 => ("OrderMoney$Office", "listed", "I", false)
  | 5 => ("OrderMoney$Office", "stepsToFail", "I", false)
  | 6 => ("OrderMoney$Office", "knownDay", "J", false)
  | 7 => ("OrderMoney$Office", "paidOnDay", "J", false)
  | _ => ("OrderMoney$Office", "latestPaid", "LOrderMoney$Order;", false)
def ty_Office : Nat → FieldType := fun k => match k with
  | 0 => .int
  | 1 => .long
  | 2 => .long
  | 3 => .boolean
  | 4 => .int
  | 5 => .int
  | 6 => .long
  | 7 => .long
  | _ => (.object "OrderMoney$Order")
theorem nm_Office : ∀ a, a < 9 → ∀ b, b < 9 → a ≠ b → (T_Office a).2.1 ≠ (T_Office b).2.1 := by decide +kernel
theorem ty_Office_ok : ∀ k, k < 9 → parseFieldDescriptor (T_Office k).2.2.1 = some (ty_Office k) := by decide +kernel
theorem in_4 : ∀ w ∈ u_ws R_Office T_Office 9, w ∈ lw_g := by decide +kernel
def R_Order : String := "OrderMoney$Order"
def T_Order : u_T := fun k => match k with
  | 0 => ("OrderMoney$Order", "number", "I", true)
  | 1 => ("OrderMoney$Order", "home", "LOrderMoney$Office;", true)
  | 2 => ("OrderMoney$Order", "cents", "J", true)
  | 3 => ("OrderMoney$Order", "until", "J", true)
  | 4 => ("OrderMoney$Order", "currency", "LOrderMoney$Currency;", true)
  | 5 => ("OrderMoney$Order", "proof", "I", true)
  | 6 => ("OrderMoney$Order", "state", "I", false)
  | 7 => ("OrderMoney$Order", "barredSince", "J", false)
  | 8 => ("OrderMoney$Order", "lister", "LOrderMoney$Office;", false)
  | 9 => ("OrderMoney$Order", "payer", "LOrderMoney$Office;", false)
  | _ => ("OrderMoney$Order", "paidBefore", "LOrderMoney$Order;", false)
def ty_Order : Nat → FieldType := fun k => match k with
  | 0 => .int
  | 1 => (.object "OrderMoney$Office")
  | 2 => .long
  | 3 => .long
  | 4 => (.object "OrderMoney$Currency")
  | 5 => .int
  | 6 => .int
  | 7 => .long
  | 8 => (.object "OrderMoney$Office")
  | 9 => (.object "OrderMoney$Office")
  | _ => (.object "OrderMoney$Order")
theorem nm_Order : ∀ a, a < 11 → ∀ b, b < 11 → a ≠ b → (T_Order a).2.1 ≠ (T_Order b).2.1 := by decide +kernel
theorem ty_Order_ok : ∀ k, k < 11 → parseFieldDescriptor (T_Order k).2.2.1 = some (ty_Order k) := by decide +kernel
theorem in_5 : ∀ w ∈ u_ws R_Order T_Order 11, w ∈ lw_g := by decide +kernel
def R_Try : String := "OrderMoney$Try"
def T_Try : u_T := fun k => match k with
  | 0 => ("OrderMoney$Try", "office", "I", true)
  | 1 => ("OrderMoney$Try", "number", "J", true)
  | 2 => ("OrderMoney$Try", "proof", "I", true)
  | 3 => ("OrderMoney$Try", "t", "J", true)
  | _ => ("OrderMoney$Try", "cameTo", "I", false)
def ty_Try : Nat → FieldType := fun k => match k with
  | 0 => .int
  | 1 => .long
  | 2 => .int
  | 3 => .long
  | _ => .int
theorem nm_Try : ∀ a, a < 5 → ∀ b, b < 5 → a ≠ b → (T_Try a).2.1 ≠ (T_Try b).2.1 := by decide +kernel
theorem ty_Try_ok : ∀ k, k < 5 → parseFieldDescriptor (T_Try k).2.2.1 = some (ty_Try k) := by decide +kernel
theorem in_6 : ∀ w ∈ u_ws R_Try T_Try 5, w ∈ lw_g := by decide +kernel
abbrev vwCl : List vw_C := [(R_X, T_X, 10), (R_M, T_M, 32), (R_Collected, T_Collected, 3), (R_Currency, T_Currency, 1), (R_Office, T_Office, 9), (R_Order, T_Order, 11), (R_Try, T_Try, 5)]
def R_Math : String := "java/lang/Math"
abbrev c_X_init : ByteArray := prog_1_method_1_code
def y_X_init : MethodName := ⟨R_X, "<init>", "()V"⟩
def ws_X_init : List Cond := .code y_X_init c_X_init 2 none :: lw_g
abbrev c_X_order : ByteArray := prog_1_method_2_code
def y_X_order : MethodName := ⟨R_X, "order", "(IJJII)I"⟩
def ws_X_order : List Cond := .code y_X_order c_X_order 10 (some .int) :: lw_g
abbrev c_X_pay : ByteArray := prog_1_method_3_code
def y_X_pay : MethodName := ⟨R_X, "pay", "(IJIJ)I"⟩
def ws_X_pay : List Cond := .code y_X_pay c_X_pay 9 (some .int) :: lw_g
abbrev c_X_fails : ByteArray := prog_1_method_4_code
def y_X_fails : MethodName := ⟨R_X, "fails", "(II)I"⟩
def ws_X_fails : List Cond := .code y_X_fails c_X_fails 4 (some .int) :: lw_g
abbrev c_X_ask : ByteArray := prog_1_method_5_code
def y_X_ask : MethodName := ⟨R_X, "ask", "(IJIJ)I"⟩
def ws_X_ask : List Cond := .code y_X_ask c_X_ask 7 (some .int) :: lw_g
abbrev c_X_serve : ByteArray := prog_1_method_6_code
def y_X_serve : MethodName := ⟨R_X, "serve", "(I)I"⟩
def ws_X_serve : List Cond := .code y_X_serve c_X_serve 5 (some .int) :: lw_g
abbrev c_X_answer : ByteArray := prog_1_method_7_code
def y_X_answer : MethodName := ⟨R_X, "answer", "(I)I"⟩
def ws_X_answer : List Cond := .code y_X_answer c_X_answer 3 (some .int) :: lw_g
abbrev c_X_bar : ByteArray := prog_1_method_8_code
def y_X_bar : MethodName := ⟨R_X, "bar", "(JJ)I"⟩
def ws_X_bar : List Cond := .code y_X_bar c_X_bar 6 (some .int) :: lw_g
abbrev c_X_since : ByteArray := prog_1_method_9_code
def y_X_since : MethodName := ⟨R_X, "since", "(J)J"⟩
def ws_X_since : List Cond := .code y_X_since c_X_since 4 (some .long) :: lw_g
abbrev c_X_replace : ByteArray := prog_1_method_10_code
def y_X_replace : MethodName := ⟨R_X, "replace", "(J)I"⟩
def ws_X_replace : List Cond := .code y_X_replace c_X_replace 4 (some .int) :: lw_g
abbrev c_X_cut : ByteArray := prog_1_method_11_code
def y_X_cut : MethodName := ⟨R_X, "cut", "(IZ)I"⟩
def ws_X_cut : List Cond := .code y_X_cut c_X_cut 4 (some .int) :: lw_g
abbrev c_X_list : ByteArray := prog_1_method_12_code
def y_X_list : MethodName := ⟨R_X, "list", "(IJ)I"⟩
def ws_X_list : List Cond := .code y_X_list c_X_list 6 (some .int) :: lw_g
abbrev c_X_set : ByteArray := prog_1_method_13_code
def y_X_set : MethodName := ⟨R_X, "set", "(IIJ)I"⟩
def ws_X_set : List Cond := .code y_X_set c_X_set 5 (some .int) :: lw_g
abbrev c_X_collect : ByteArray := prog_1_method_14_code
def y_X_collect : MethodName := ⟨R_X, "collect", "(IJI)I"⟩
def ws_X_collect : List Cond := .code y_X_collect c_X_collect 6 (some .int) :: lw_g
abbrev c_X_pass : ByteArray := prog_1_method_15_code
def y_X_pass : MethodName := ⟨R_X, "pass", "(I)I"⟩
def ws_X_pass : List Cond := .code y_X_pass c_X_pass 6 (some .int) :: lw_g
abbrev c_X_tick : ByteArray := prog_1_method_16_code
def y_X_tick : MethodName := ⟨R_X, "tick", "(J)I"⟩
def ws_X_tick : List Cond := .code y_X_tick c_X_tick 6 (some .int) :: lw_g
abbrev c_X_about : ByteArray := prog_1_method_17_code
def y_X_about : MethodName := ⟨R_X, "about", "(JI)J"⟩
def ws_X_about : List Cond := .code y_X_about c_X_about 5 (some .long) :: lw_g
abbrev c_X_till : ByteArray := prog_1_method_18_code
def y_X_till : MethodName := ⟨R_X, "till", "(I)J"⟩
def ws_X_till : List Cond := .code y_X_till c_X_till 3 (some .long) :: lw_g
abbrev c_X_all : ByteArray := prog_1_method_19_code
def y_X_all : MethodName := ⟨R_X, "all", "(I)J"⟩
def ws_X_all : List Cond := .code y_X_all c_X_all 2 (some .long) :: lw_g
abbrev c_X_officeAt : ByteArray := prog_1_method_20_code
def y_X_officeAt : MethodName := ⟨R_X, "officeAt", "(I)LOrderMoney$Office;"⟩
def ws_X_officeAt : List Cond := .code y_X_officeAt c_X_officeAt 2 (some (.object "OrderMoney$Office")) :: lw_g
abbrev c_X_currencyAt : ByteArray := prog_1_method_21_code
def y_X_currencyAt : MethodName := ⟨R_X, "currencyAt", "(I)LOrderMoney$Currency;"⟩
def ws_X_currencyAt : List Cond := .code y_X_currencyAt c_X_currencyAt 2 (some (.object "OrderMoney$Currency")) :: lw_g
abbrev c_X_placeOf : ByteArray := prog_1_method_22_code
def y_X_placeOf : MethodName := ⟨R_X, "placeOf", "(LOrderMoney$Office;)J"⟩
def ws_X_placeOf : List Cond := .code y_X_placeOf c_X_placeOf 1 (some .long) :: lw_g
abbrev c_X_placeOfTry : ByteArray := prog_1_method_23_code
def y_X_placeOfTry : MethodName := ⟨R_X, "placeOfTry", "(I)I"⟩
def ws_X_placeOfTry : List Cond := .code y_X_placeOfTry c_X_placeOfTry 1 (some .int) :: lw_g
abbrev c_X_isOrderable : ByteArray := prog_1_method_24_code
def y_X_isOrderable : MethodName := ⟨R_X, "isOrderable", "(J)Z"⟩
def ws_X_isOrderable : List Cond := .code y_X_isOrderable c_X_isOrderable 2 (some .boolean) :: lw_g
abbrev c_X_isCollectDay : ByteArray := prog_1_method_25_code
def y_X_isCollectDay : MethodName := ⟨R_X, "isCollectDay", "(I)Z"⟩
def ws_X_isCollectDay : List Cond := .code y_X_isCollectDay c_X_isCollectDay 1 (some .boolean) :: lw_g
abbrev c_X_find : ByteArray := prog_1_method_26_code
def y_X_find : MethodName := ⟨R_X, "find", "(J)LOrderMoney$Order;"⟩
def ws_X_find : List Cond := .code y_X_find c_X_find 6 (some (.object "OrderMoney$Order")) :: lw_g
abbrev c_X_addOrder : ByteArray := prog_1_method_27_code
def y_X_addOrder : MethodName := ⟨R_X, "addOrder", "(LOrderMoney$Office;JJLOrderMoney$Currency;I)I"⟩
def ws_X_addOrder : List Cond := .code y_X_addOrder c_X_addOrder 9 (some .int) :: lw_g
abbrev c_X_numberOf : ByteArray := prog_1_method_28_code
def y_X_numberOf : MethodName := ⟨R_X, "numberOf", "(I)I"⟩
def ws_X_numberOf : List Cond := .code y_X_numberOf c_X_numberOf 4 (some .int) :: lw_g
abbrev c_X_goThroughSteps : ByteArray := prog_1_method_29_code
def y_X_goThroughSteps : MethodName := ⟨R_X, "goThroughSteps", "(LOrderMoney$Office;LOrderMoney$Order;IJ)I"⟩
def ws_X_goThroughSteps : List Cond := .code y_X_goThroughSteps c_X_goThroughSteps 9 (some .int) :: lw_g
abbrev c_X_takeStep : ByteArray := prog_1_method_30_code
def y_X_takeStep : MethodName := ⟨R_X, "takeStep", "(ILOrderMoney$Office;LOrderMoney$Order;IJ)I"⟩
def ws_X_takeStep : List Cond := .code y_X_takeStep c_X_takeStep 7 (some .int) :: lw_g
abbrev c_X_undoSteps : ByteArray := prog_1_method_31_code
def y_X_undoSteps : MethodName := ⟨R_X, "undoSteps", "(ILOrderMoney$Office;LOrderMoney$Order;)V"⟩
def ws_X_undoSteps : List Cond := .code y_X_undoSteps c_X_undoSteps 5 none :: lw_g
abbrev c_X_writePaid : ByteArray := prog_1_method_32_code
def y_X_writePaid : MethodName := ⟨R_X, "writePaid", "(LOrderMoney$Office;LOrderMoney$Order;J)V"⟩
def ws_X_writePaid : List Cond := .code y_X_writePaid c_X_writePaid 5 none :: lw_g
abbrev c_X_emptyListOf : ByteArray := prog_1_method_33_code
def y_X_emptyListOf : MethodName := ⟨R_X, "emptyListOf", "(LOrderMoney$Office;)V"⟩
def ws_X_emptyListOf : List Cond := .code y_X_emptyListOf c_X_emptyListOf 4 none :: lw_g
abbrev c_X_changeTill : ByteArray := prog_1_method_34_code
def y_X_changeTill : MethodName := ⟨R_X, "changeTill", "(LOrderMoney$Office;J)I"⟩
def ws_X_changeTill : List Cond := .code y_X_changeTill c_X_changeTill 4 (some .int) :: lw_g
abbrev c_X_changeLimit : ByteArray := prog_1_method_35_code
def y_X_changeLimit : MethodName := ⟨R_X, "changeLimit", "(LOrderMoney$Office;J)I"⟩
def ws_X_changeLimit : List Cond := .code y_X_changeLimit c_X_changeLimit 3 (some .int) :: lw_g
abbrev c_X_changeRate : ByteArray := prog_1_method_36_code
def y_X_changeRate : MethodName := ⟨R_X, "changeRate", "(LOrderMoney$Currency;J)I"⟩
def ws_X_changeRate : List Cond := .code y_X_changeRate c_X_changeRate 3 (some .int) :: lw_g
abbrev c_X_passOn : ByteArray := prog_1_method_37_code
def y_X_passOn : MethodName := ⟨R_X, "passOn", "(LOrderMoney$Collected;I)Z"⟩
def ws_X_passOn : List Cond := .code y_X_passOn c_X_passOn 3 (some .boolean) :: lw_g
abbrev c_X_sendBack : ByteArray := prog_1_method_38_code
def y_X_sendBack : MethodName := ⟨R_X, "sendBack", "(LOrderMoney$Order;)Z"⟩
def ws_X_sendBack : List Cond := .code y_X_sendBack c_X_sendBack 2 (some .boolean) :: lw_g
abbrev c_M_init : ByteArray := prog_8_method_1_code
def y_M_init : MethodName := ⟨R_M, "<init>", "()V"⟩
def ws_M_init : List Cond := .code y_M_init c_M_init 1 none :: lw_g
abbrev c_M_in : ByteArray := prog_8_method_3_code
def y_M_in : MethodName := ⟨R_M, "in", "(JJJ)Z"⟩
def ws_M_in : List Cond := .code y_M_in c_M_in 6 (some .boolean) :: lw_g
abbrev c_M_isOffice : ByteArray := prog_8_method_4_code
def y_M_isOffice : MethodName := ⟨R_M, "isOffice", "(I)Z"⟩
def ws_M_isOffice : List Cond := .code y_M_isOffice c_M_isOffice 1 (some .boolean) :: lw_g
abbrev c_M_numberOf : ByteArray := prog_8_method_5_code
def y_M_numberOf : MethodName := ⟨R_M, "numberOf", "(I)I"⟩
def ws_M_numberOf : List Cond := .code y_M_numberOf c_M_numberOf 4 (some .int) :: lw_g
abbrev c_M_find : ByteArray := prog_8_method_6_code
def y_M_find : MethodName := ⟨R_M, "find", "(J)I"⟩
def ws_M_find : List Cond := .code y_M_find c_M_find 4 (some .int) :: lw_g
abbrev c_M_add : ByteArray := prog_8_method_7_code
def y_M_add : MethodName := ⟨R_M, "add", "(IJJII)I"⟩
def ws_M_add : List Cond := .code y_M_add c_M_add 8 (some .int) :: lw_g
abbrev c_M_order : ByteArray := prog_8_method_8_code
def y_M_order : MethodName := ⟨R_M, "order", "(IJJII)I"⟩
def ws_M_order : List Cond := .code y_M_order c_M_order 8 (some .int) :: lw_g
abbrev c_M_sumOf : ByteArray := prog_8_method_9_code
def y_M_sumOf : MethodName := ⟨R_M, "sumOf", "(I)J"⟩
def ws_M_sumOf : List Cond := .code y_M_sumOf c_M_sumOf 2 (some .long) :: lw_g
abbrev c_M_failsNow : ByteArray := prog_8_method_10_code
def y_M_failsNow : MethodName := ⟨R_M, "failsNow", "(II)Z"⟩
def ws_M_failsNow : List Cond := .code y_M_failsNow c_M_failsNow 4 (some .boolean) :: lw_g
abbrev c_M_pay : ByteArray := prog_8_method_11_code
def y_M_pay : MethodName := ⟨R_M, "pay", "(IJIJ)I"⟩
def ws_M_pay : List Cond := .code y_M_pay c_M_pay 17 (some .int) :: lw_g
abbrev c_M_fails : ByteArray := prog_8_method_12_code
def y_M_fails : MethodName := ⟨R_M, "fails", "(II)I"⟩
def ws_M_fails : List Cond := .code y_M_fails c_M_fails 4 (some .int) :: lw_g
abbrev c_M_ask : ByteArray := prog_8_method_13_code
def y_M_ask : MethodName := ⟨R_M, "ask", "(IJIJ)I"⟩
def ws_M_ask : List Cond := .code y_M_ask c_M_ask 7 (some .int) :: lw_g
abbrev c_M_serve : ByteArray := prog_8_method_14_code
def y_M_serve : MethodName := ⟨R_M, "serve", "(I)I"⟩
def ws_M_serve : List Cond := .code y_M_serve c_M_serve 4 (some .int) :: lw_g
abbrev c_M_answer : ByteArray := prog_8_method_15_code
def y_M_answer : MethodName := ⟨R_M, "answer", "(I)I"⟩
def ws_M_answer : List Cond := .code y_M_answer c_M_answer 2 (some .int) :: lw_g
abbrev c_M_bar : ByteArray := prog_8_method_16_code
def y_M_bar : MethodName := ⟨R_M, "bar", "(JJ)I"⟩
def ws_M_bar : List Cond := .code y_M_bar c_M_bar 6 (some .int) :: lw_g
abbrev c_M_since : ByteArray := prog_8_method_17_code
def y_M_since : MethodName := ⟨R_M, "since", "(J)J"⟩
def ws_M_since : List Cond := .code y_M_since c_M_since 4 (some .long) :: lw_g
abbrev c_M_replace : ByteArray := prog_8_method_18_code
def y_M_replace : MethodName := ⟨R_M, "replace", "(J)I"⟩
def ws_M_replace : List Cond := .code y_M_replace c_M_replace 4 (some .int) :: lw_g
abbrev c_M_tick : ByteArray := prog_8_method_19_code
def y_M_tick : MethodName := ⟨R_M, "tick", "(J)I"⟩
def ws_M_tick : List Cond := .code y_M_tick c_M_tick 6 (some .int) :: lw_g
abbrev c_M_listed : ByteArray := prog_8_method_20_code
def y_M_listed : MethodName := ⟨R_M, "listed", "(I)I"⟩
def ws_M_listed : List Cond := .code y_M_listed c_M_listed 4 (some .int) :: lw_g
abbrev c_M_cut : ByteArray := prog_8_method_21_code
def y_M_cut : MethodName := ⟨R_M, "cut", "(IZ)I"⟩
def ws_M_cut : List Cond := .code y_M_cut c_M_cut 4 (some .int) :: lw_g
abbrev c_M_list : ByteArray := prog_8_method_22_code
def y_M_list : MethodName := ⟨R_M, "list", "(IJ)I"⟩
def ws_M_list : List Cond := .code y_M_list c_M_list 5 (some .int) :: lw_g
abbrev c_M_set : ByteArray := prog_8_method_23_code
def y_M_set : MethodName := ⟨R_M, "set", "(IIJ)I"⟩
def ws_M_set : List Cond := .code y_M_set c_M_set 5 (some .int) :: lw_g
abbrev c_M_collect : ByteArray := prog_8_method_24_code
def y_M_collect : MethodName := ⟨R_M, "collect", "(IJI)I"⟩
def ws_M_collect : List Cond := .code y_M_collect c_M_collect 5 (some .int) :: lw_g
abbrev c_M_pass : ByteArray := prog_8_method_25_code
def y_M_pass : MethodName := ⟨R_M, "pass", "(I)I"⟩
def ws_M_pass : List Cond := .code y_M_pass c_M_pass 5 (some .int) :: lw_g
abbrev c_M_about : ByteArray := prog_8_method_26_code
def y_M_about : MethodName := ⟨R_M, "about", "(JI)J"⟩
def ws_M_about : List Cond := .code y_M_about c_M_about 5 (some .long) :: lw_g
abbrev c_M_till : ByteArray := prog_8_method_27_code
def y_M_till : MethodName := ⟨R_M, "till", "(I)J"⟩
def ws_M_till : List Cond := .code y_M_till c_M_till 2 (some .long) :: lw_g
abbrev c_M_all : ByteArray := prog_8_method_28_code
def y_M_all : MethodName := ⟨R_M, "all", "(I)J"⟩
def ws_M_all : List Cond := .code y_M_all c_M_all 2 (some .long) :: lw_g
abbrev c_Collected_init : ByteArray := prog_2_method_1_code
def y_Collected_init : MethodName := ⟨R_Collected, "<init>", "(LOrderMoney$Office;JI)V"⟩
def ws_Collected_init : List Cond := .code y_Collected_init c_Collected_init 5 none :: lw_g
abbrev c_Currency_init : ByteArray := prog_3_method_1_code
def y_Currency_init : MethodName := ⟨R_Currency, "<init>", "()V"⟩
def ws_Currency_init : List Cond := .code y_Currency_init c_Currency_init 1 none :: lw_g
abbrev c_Office_init : ByteArray := prog_4_method_1_code
def y_Office_init : MethodName := ⟨R_Office, "<init>", "(I)V"⟩
def ws_Office_init : List Cond := .code y_Office_init c_Office_init 2 none :: lw_g
abbrev c_Office_mayTouch : ByteArray := prog_4_method_2_code
def y_Office_mayTouch : MethodName := ⟨R_Office, "mayTouch", "(LOrderMoney$Order;)Z"⟩
def ws_Office_mayTouch : List Cond := .code y_Office_mayTouch c_Office_mayTouch 2 (some .boolean) :: lw_g
abbrev c_Office_tellToFail : ByteArray := prog_4_method_3_code
def y_Office_tellToFail : MethodName := ⟨R_Office, "tellToFail", "(I)Z"⟩
def ws_Office_tellToFail : List Cond := .code y_Office_tellToFail c_Office_tellToFail 4 (some .boolean) :: lw_g
abbrev c_Office_takesFailing : ByteArray := prog_4_method_4_code
def y_Office_takesFailing : MethodName := ⟨R_Office, "takesFailing", "(I)Z"⟩
def ws_Office_takesFailing : List Cond := .code y_Office_takesFailing c_Office_takesFailing 4 (some .boolean) :: lw_g
abbrev c_Office_keepsLimit : ByteArray := prog_4_method_5_code
def y_Office_keepsLimit : MethodName := ⟨R_Office, "keepsLimit", "(JJ)Z"⟩
def ws_Office_keepsLimit : List Cond := .code y_Office_keepsLimit c_Office_keepsLimit 7 (some .boolean) :: lw_g
abbrev c_Office_giveOut : ByteArray := prog_4_method_6_code
def y_Office_giveOut : MethodName := ⟨R_Office, "giveOut", "(J)Z"⟩
def ws_Office_giveOut : List Cond := .code y_Office_giveOut c_Office_giveOut 3 (some .boolean) :: lw_g
abbrev c_Office_know : ByteArray := prog_4_method_7_code
def y_Office_know : MethodName := ⟨R_Office, "know", "(LOrderMoney$Order;J)V"⟩
def ws_Office_know : List Cond := .code y_Office_know c_Office_know 4 none :: lw_g
abbrev c_Office_knownWith : ByteArray := prog_4_method_8_code
def y_Office_knownWith : MethodName := ⟨R_Office, "knownWith", "(I)I"⟩
def ws_Office_knownWith : List Cond := .code y_Office_knownWith c_Office_knownWith 4 (some .int) :: lw_g
abbrev c_Order_init : ByteArray := prog_5_method_1_code
def y_Order_init : MethodName := ⟨R_Order, "<init>", "(ILOrderMoney$Office;JJLOrderMoney$Currency;I)V"⟩
def ws_Order_init : List Cond := .code y_Order_init c_Order_init 9 none :: lw_g
abbrev c_Order_isUnpaid : ByteArray := prog_5_method_2_code
def y_Order_isUnpaid : MethodName := ⟨R_Order, "isUnpaid", "()Z"⟩
def ws_Order_isUnpaid : List Cond := .code y_Order_isUnpaid c_Order_isUnpaid 1 (some .boolean) :: lw_g
abbrev c_Order_sum : ByteArray := prog_5_method_3_code
def y_Order_sum : MethodName := ⟨R_Order, "sum", "()J"⟩
def ws_Order_sum : List Cond := .code y_Order_sum c_Order_sum 1 (some .long) :: lw_g
abbrev c_Order_become : ByteArray := prog_5_method_4_code
def y_Order_become : MethodName := ⟨R_Order, "become", "(I)V"⟩
def ws_Order_become : List Cond := .code y_Order_become c_Order_become 2 none :: lw_g
abbrev c_Order_leaveList : ByteArray := prog_5_method_5_code
def y_Order_leaveList : MethodName := ⟨R_Order, "leaveList", "()V"⟩
def ws_Order_leaveList : List Cond := .code y_Order_leaveList c_Order_leaveList 1 none :: lw_g
abbrev c_Try_init : ByteArray := prog_6_method_1_code
def y_Try_init : MethodName := ⟨R_Try, "<init>", "(IJIJ)V"⟩
def ws_Try_init : List Cond := .code y_Try_init c_Try_init 7 none :: lw_g
abbrev c_Math_floorMod : ByteArray := prog_9_method_50_code
def y_Math_floorMod : MethodName := ⟨R_Math, "floorMod", "(II)I"⟩
def ws_Math_floorMod : List Cond := .code y_Math_floorMod c_Math_floorMod 3 (some .int) :: lw_g
theorem wd_1 : (Jvm.Cond.initialized "OrderMoney") ∈ lw_g := List.mem_filter.mpr ⟨List.mem_append_right _ (List.mem_append_left _ (List.mem_of_getElem? (i := 1) rfl)), rfl⟩
theorem wd_2 : (Jvm.Cond.initialized "OrderMoney$Office") ∈ lw_g := List.mem_filter.mpr ⟨List.mem_append_right _ (List.mem_append_left _ (List.mem_of_getElem? (i := 2) rfl)), rfl⟩
theorem wd_3 : (Jvm.Cond.initialized "OrderMoney$Currency") ∈ lw_g := List.mem_filter.mpr ⟨List.mem_append_right _ (List.mem_append_left _ (List.mem_of_getElem? (i := 3) rfl)), rfl⟩
theorem wd_4 : (Jvm.Cond.initialized "OrderMoneyModel") ∈ lw_g := List.mem_filter.mpr ⟨List.mem_append_right _ (List.mem_append_left _ (List.mem_of_getElem? (i := 4) rfl)), rfl⟩
theorem wd_5 : (Jvm.Cond.initialized "OrderMoney$Order") ∈ lw_g := List.mem_filter.mpr ⟨List.mem_append_right _ (List.mem_append_left _ (List.mem_of_getElem? (i := 5) rfl)), rfl⟩
theorem wd_6 : (Jvm.Cond.initialized "java/lang/Math") ∈ lw_g := List.mem_filter.mpr ⟨List.mem_append_right _ (List.mem_append_left _ (List.mem_of_getElem? (i := 6) rfl)), rfl⟩
theorem wd_7 : (Jvm.Cond.initialized "OrderMoney$Try") ∈ lw_g := List.mem_filter.mpr ⟨List.mem_append_right _ (List.mem_append_left _ (List.mem_of_getElem? (i := 7) rfl)), rfl⟩
theorem wd_8 : (Jvm.Cond.initialized "OrderMoney$Collected") ∈ lw_g := List.mem_filter.mpr ⟨List.mem_append_right _ (List.mem_append_left _ (List.mem_of_getElem? (i := 8) rfl)), rfl⟩
theorem wd_9 : (Jvm.Cond.classLink "OrderMoneyLaw" (7 : Nat) "OrderMoney") ∈ lw_g := List.mem_filter.mpr ⟨List.mem_append_right _ (List.mem_append_left _ (List.mem_of_getElem? (i := 9) rfl)), rfl⟩
theorem wd_10 : (Jvm.Cond.instantiable "OrderMoney" (10 : Nat)) ∈ lw_g := List.mem_filter.mpr ⟨List.mem_append_right _ (List.mem_append_left _ (List.mem_of_getElem? (i := 10) rfl)), rfl⟩
theorem wd_11 : (Jvm.Cond.methodLink "OrderMoneyLaw" (9 : Nat) ({ cls := "OrderMoney", name := "<init>", desc := "()V" } : Jvm.MethodName)) ∈ lw_g := List.mem_filter.mpr ⟨List.mem_append_right _ (List.mem_append_left _ (List.mem_of_getElem? (i := 11) rfl)), rfl⟩
theorem wd_12 : (Jvm.Cond.instanceMethod ({ cls := "OrderMoney", name := "<init>", desc := "()V" } : Jvm.MethodName)) ∈ lw_g := List.mem_filter.mpr ⟨List.mem_append_right _ (List.mem_append_left _ (List.mem_of_getElem? (i := 12) rfl)), rfl⟩
theorem wd_13 : (Jvm.Cond.code ({ cls := "OrderMoney", name := "<init>", desc := "()V" } : Jvm.MethodName) prog_1_method_1_code (2 : Nat) (Option.none : Option Jvm.ClassFile.FieldType)) ∈ lw_g := List.mem_filter.mpr ⟨List.mem_append_right _ (List.mem_append_left _ (List.mem_of_getElem? (i := 13) rfl)), rfl⟩
theorem wd_14 : (Jvm.Cond.methodLink "OrderMoney" (1 : Nat) ({ cls := "java/lang/Object", name := "<init>", desc := "()V" } : Jvm.MethodName)) ∈ lw_g := List.mem_filter.mpr ⟨List.mem_append_right _ (List.mem_append_left _ (List.mem_of_getElem? (i := 14) rfl)), rfl⟩
theorem wd_15 : (Jvm.Cond.instanceMethod ({ cls := "java/lang/Object", name := "<init>", desc := "()V" } : Jvm.MethodName)) ∈ lw_g := List.mem_filter.mpr ⟨List.mem_append_right _ (List.mem_append_left _ (List.mem_of_getElem? (i := 15) rfl)), rfl⟩
theorem wd_16 : (Jvm.Cond.code ({ cls := "java/lang/Object", name := "<init>", desc := "()V" } : Jvm.MethodName) object_method_1_code (1 : Nat) (Option.none : Option Jvm.ClassFile.FieldType)) ∈ lw_g := List.mem_filter.mpr ⟨List.mem_append_right _ (List.mem_append_left _ (List.mem_of_getElem? (i := 16) rfl)), rfl⟩
theorem wd_17 : (Jvm.Cond.classLink "OrderMoney" (9 : Nat) "OrderMoney$Office") ∈ lw_g := List.mem_filter.mpr ⟨List.mem_append_right _ (List.mem_append_left _ (List.mem_of_getElem? (i := 17) rfl)), rfl⟩
theorem wd_18 : (Jvm.Cond.arrayOver (Jvm.ClassFile.FieldType.object "OrderMoney$Office")) ∈ lw_tbl := List.mem_append_right _ (List.mem_append_left _ (List.mem_of_getElem? (i := 18) rfl))
theorem wd_19 : (Jvm.Cond.classLink "OrderMoney" (15 : Nat) "OrderMoney$Currency") ∈ lw_g := List.mem_filter.mpr ⟨List.mem_append_right _ (List.mem_append_left _ (List.mem_of_getElem? (i := 19) rfl)), rfl⟩
theorem wd_20 : (Jvm.Cond.arrayOver (Jvm.ClassFile.FieldType.object "OrderMoney$Currency")) ∈ lw_tbl := List.mem_append_right _ (List.mem_append_left _ (List.mem_of_getElem? (i := 20) rfl))
theorem wd_21 : (Jvm.Cond.classLink "OrderMoney" (21 : Nat) "OrderMoney$Order") ∈ lw_g := List.mem_filter.mpr ⟨List.mem_append_right _ (List.mem_append_left _ (List.mem_of_getElem? (i := 21) rfl)), rfl⟩
theorem wd_22 : (Jvm.Cond.arrayOver (Jvm.ClassFile.FieldType.object "OrderMoney$Order")) ∈ lw_tbl := List.mem_append_right _ (List.mem_append_left _ (List.mem_of_getElem? (i := 22) rfl))
theorem wd_23 : (Jvm.Cond.classLink "OrderMoney" (27 : Nat) "OrderMoney$Try") ∈ lw_g := List.mem_filter.mpr ⟨List.mem_append_right _ (List.mem_append_left _ (List.mem_of_getElem? (i := 23) rfl)), rfl⟩
theorem wd_24 : (Jvm.Cond.arrayOver (Jvm.ClassFile.FieldType.object "OrderMoney$Try")) ∈ lw_tbl := List.mem_append_right _ (List.mem_append_left _ (List.mem_of_getElem? (i := 24) rfl))
theorem wd_25 : (Jvm.Cond.classLink "OrderMoney" (33 : Nat) "OrderMoney$Collected") ∈ lw_g := List.mem_filter.mpr ⟨List.mem_append_right _ (List.mem_append_left _ (List.mem_of_getElem? (i := 25) rfl)), rfl⟩
theorem wd_26 : (Jvm.Cond.arrayOver (Jvm.ClassFile.FieldType.object "OrderMoney$Collected")) ∈ lw_tbl := List.mem_append_right _ (List.mem_append_left _ (List.mem_of_getElem? (i := 26) rfl))
theorem wd_27 : (Jvm.Cond.instantiable "OrderMoney$Office" (9 : Nat)) ∈ lw_g := List.mem_filter.mpr ⟨List.mem_append_right _ (List.mem_append_left _ (List.mem_of_getElem? (i := 27) rfl)), rfl⟩
theorem wd_28 : (Jvm.Cond.methodLink "OrderMoney" (43 : Nat) ({ cls := "OrderMoney$Office", name := "<init>", desc := "(I)V" } : Jvm.MethodName)) ∈ lw_g := List.mem_filter.mpr ⟨List.mem_append_right _ (List.mem_append_left _ (List.mem_of_getElem? (i := 28) rfl)), rfl⟩
theorem wd_29 : (Jvm.Cond.instanceMethod ({ cls := "OrderMoney$Office", name := "<init>", desc := "(I)V" } : Jvm.MethodName)) ∈ lw_g := List.mem_filter.mpr ⟨List.mem_append_right _ (List.mem_append_left _ (List.mem_of_getElem? (i := 29) rfl)), rfl⟩
theorem wd_30 : (Jvm.Cond.code ({ cls := "OrderMoney$Office", name := "<init>", desc := "(I)V" } : Jvm.MethodName) prog_4_method_1_code (2 : Nat) (Option.none : Option Jvm.ClassFile.FieldType)) ∈ lw_g := List.mem_filter.mpr ⟨List.mem_append_right _ (List.mem_append_left _ (List.mem_of_getElem? (i := 30) rfl)), rfl⟩
theorem wd_31 : (Jvm.Cond.methodLink "OrderMoney$Office" (3 : Nat) ({ cls := "java/lang/Object", name := "<init>", desc := "()V" } : Jvm.MethodName)) ∈ lw_g := List.mem_filter.mpr ⟨List.mem_append_right _ (List.mem_append_left _ (List.mem_of_getElem? (i := 31) rfl)), rfl⟩
theorem wd_32 : (Jvm.Cond.constantLong "OrderMoney$Office" (9 : Nat) (-1 : Int64)) ∈ lw_g := List.mem_filter.mpr ⟨List.mem_append_right _ (List.mem_append_left _ (List.mem_of_getElem? (i := 32) rfl)), rfl⟩
theorem wd_33 : (Jvm.Cond.fieldLink "OrderMoney$Office" (20 : Nat) "OrderMoney$Office" "place" "I") ∈ lw_g := List.mem_filter.mpr ⟨List.mem_append_right _ (List.mem_append_left _ (List.mem_of_getElem? (i := 33) rfl)), rfl⟩
theorem wd_34 : (Jvm.Cond.fieldLinkNest "OrderMoney" (198 : Nat) "OrderMoney$Office" "place" "I" "OrderMoney") ∈ lw_tbl := List.mem_append_right _ (List.mem_append_left _ (List.mem_of_getElem? (i := 34) rfl))
theorem wd_35 : (Jvm.Cond.fieldLinkNest "OrderMoney" (63 : Nat) "OrderMoney$Office" "cash" "J" "OrderMoney") ∈ lw_tbl := List.mem_append_right _ (List.mem_append_left _ (List.mem_of_getElem? (i := 35) rfl))
theorem wd_36 : (Jvm.Cond.fieldLink "OrderMoney$Office" (40 : Nat) "OrderMoney$Office" "cash" "J") ∈ lw_g := List.mem_filter.mpr ⟨List.mem_append_right _ (List.mem_append_left _ (List.mem_of_getElem? (i := 36) rfl)), rfl⟩
theorem wd_37 : (Jvm.Cond.fieldLink "OrderMoney$Office" (11 : Nat) "OrderMoney$Office" "limit" "J") ∈ lw_g := List.mem_filter.mpr ⟨List.mem_append_right _ (List.mem_append_left _ (List.mem_of_getElem? (i := 37) rfl)), rfl⟩
theorem wd_38 : (Jvm.Cond.fieldLinkNest "OrderMoney" (267 : Nat) "OrderMoney$Office" "limit" "J" "OrderMoney") ∈ lw_tbl := List.mem_append_right _ (List.mem_append_left _ (List.mem_of_getElem? (i := 38) rfl))
theorem wd_39 : (Jvm.Cond.fieldLink "OrderMoney$Office" (30 : Nat) "OrderMoney$Office" "isCut" "Z") ∈ lw_g := List.mem_filter.mpr ⟨List.mem_append_right _ (List.mem_append_left _ (List.mem_of_getElem? (i := 39) rfl)), rfl⟩
theorem wd_40 : (Jvm.Cond.fieldLinkNest "OrderMoney" (157 : Nat) "OrderMoney$Office" "isCut" "Z" "OrderMoney") ∈ lw_tbl := List.mem_append_right _ (List.mem_append_left _ (List.mem_of_getElem? (i := 40) rfl))
theorem wd_41 : (Jvm.Cond.fieldLinkNest "OrderMoney$Order" (54 : Nat) "OrderMoney$Office" "listed" "I" "OrderMoney") ∈ lw_tbl := List.mem_append_right _ (List.mem_append_left _ (List.mem_of_getElem? (i := 41) rfl))
theorem wd_42 : (Jvm.Cond.fieldLinkNest "OrderMoney" (168 : Nat) "OrderMoney$Office" "listed" "I" "OrderMoney") ∈ lw_tbl := List.mem_append_right _ (List.mem_append_left _ (List.mem_of_getElem? (i := 42) rfl))
theorem wd_43 : (Jvm.Cond.fieldLink "OrderMoney$Office" (34 : Nat) "OrderMoney$Office" "stepsToFail" "I") ∈ lw_g := List.mem_filter.mpr ⟨List.mem_append_right _ (List.mem_append_left _ (List.mem_of_getElem? (i := 43) rfl)), rfl⟩
theorem wd_44 : (Jvm.Cond.fieldLink "OrderMoney$Office" (17 : Nat) "OrderMoney$Office" "knownDay" "J") ∈ lw_g := List.mem_filter.mpr ⟨List.mem_append_right _ (List.mem_append_left _ (List.mem_of_getElem? (i := 44) rfl)), rfl⟩
theorem wd_45 : (Jvm.Cond.fieldLink "OrderMoney$Office" (37 : Nat) "OrderMoney$Office" "paidOnDay" "J") ∈ lw_g := List.mem_filter.mpr ⟨List.mem_append_right _ (List.mem_append_left _ (List.mem_of_getElem? (i := 45) rfl)), rfl⟩
theorem wd_46 : (Jvm.Cond.fieldLink "OrderMoney$Office" (43 : Nat) "OrderMoney$Office" "latestPaid" "LOrderMoney$Order;") ∈ lw_g := List.mem_filter.mpr ⟨List.mem_append_right _ (List.mem_append_left _ (List.mem_of_getElem? (i := 46) rfl)), rfl⟩
theorem wd_66 : (Jvm.Cond.arrayClass Jvm.ClassFile.FieldType.long) ∈ lw_g := List.mem_filter.mpr ⟨List.mem_append_right _ (List.mem_append_left _ (List.mem_of_getElem? (i := 66) rfl)), rfl⟩
theorem wd_67 : (Jvm.Cond.instantiable "OrderMoney$Currency" (1 : Nat)) ∈ lw_g := List.mem_filter.mpr ⟨List.mem_append_right _ (List.mem_append_left _ (List.mem_of_getElem? (i := 67) rfl)), rfl⟩
theorem wd_68 : (Jvm.Cond.methodLinkNest "OrderMoney" (46 : Nat) ({ cls := "OrderMoney$Currency", name := "<init>", desc := "()V" } : Jvm.MethodName) "OrderMoney") ∈ lw_tbl := List.mem_append_right _ (List.mem_append_left _ (List.mem_of_getElem? (i := 68) rfl))
theorem wd_69 : (Jvm.Cond.instanceMethod ({ cls := "OrderMoney$Currency", name := "<init>", desc := "()V" } : Jvm.MethodName)) ∈ lw_g := List.mem_filter.mpr ⟨List.mem_append_right _ (List.mem_append_left _ (List.mem_of_getElem? (i := 69) rfl)), rfl⟩
theorem wd_70 : (Jvm.Cond.code ({ cls := "OrderMoney$Currency", name := "<init>", desc := "()V" } : Jvm.MethodName) prog_3_method_1_code (1 : Nat) (Option.none : Option Jvm.ClassFile.FieldType)) ∈ lw_g := List.mem_filter.mpr ⟨List.mem_append_right _ (List.mem_append_left _ (List.mem_of_getElem? (i := 70) rfl)), rfl⟩
theorem wd_71 : (Jvm.Cond.methodLink "OrderMoney$Currency" (3 : Nat) ({ cls := "java/lang/Object", name := "<init>", desc := "()V" } : Jvm.MethodName)) ∈ lw_g := List.mem_filter.mpr ⟨List.mem_append_right _ (List.mem_append_left _ (List.mem_of_getElem? (i := 71) rfl)), rfl⟩
theorem wd_72 : (Jvm.Cond.constantLong "OrderMoney$Currency" (9 : Nat) (1000 : Int64)) ∈ lw_g := List.mem_filter.mpr ⟨List.mem_append_right _ (List.mem_append_left _ (List.mem_of_getElem? (i := 72) rfl)), rfl⟩
theorem wd_73 : (Jvm.Cond.fieldLink "OrderMoney$Currency" (11 : Nat) "OrderMoney$Currency" "rate" "J") ∈ lw_g := List.mem_filter.mpr ⟨List.mem_append_right _ (List.mem_append_left _ (List.mem_of_getElem? (i := 73) rfl)), rfl⟩
theorem wd_74 : (Jvm.Cond.fieldLinkNest "OrderMoney$Order" (41 : Nat) "OrderMoney$Currency" "rate" "J" "OrderMoney") ∈ lw_tbl := List.mem_append_right _ (List.mem_append_left _ (List.mem_of_getElem? (i := 74) rfl))
theorem wd_75 : (Jvm.Cond.fieldLinkNest "OrderMoney" (272 : Nat) "OrderMoney$Currency" "rate" "J" "OrderMoney") ∈ lw_tbl := List.mem_append_right _ (List.mem_append_left _ (List.mem_of_getElem? (i := 75) rfl))
theorem wd_79 : (Jvm.Cond.fieldLink "OrderMoney" (11 : Nat) "OrderMoney" "offices" "[LOrderMoney$Office;") ∈ lw_g := List.mem_filter.mpr ⟨List.mem_append_right _ (List.mem_append_left _ (List.mem_of_getElem? (i := 79) rfl)), rfl⟩
theorem wd_80 : (Jvm.Cond.fieldLink "OrderMoney" (17 : Nat) "OrderMoney" "currencies" "[LOrderMoney$Currency;") ∈ lw_g := List.mem_filter.mpr ⟨List.mem_append_right _ (List.mem_append_left _ (List.mem_of_getElem? (i := 80) rfl)), rfl⟩
theorem wd_81 : (Jvm.Cond.fieldLink "OrderMoney" (23 : Nat) "OrderMoney" "orders" "[LOrderMoney$Order;") ∈ lw_g := List.mem_filter.mpr ⟨List.mem_append_right _ (List.mem_append_left _ (List.mem_of_getElem? (i := 81) rfl)), rfl⟩
theorem wd_82 : (Jvm.Cond.fieldLink "OrderMoney" (59 : Nat) "OrderMoney" "orderCount" "I") ∈ lw_g := List.mem_filter.mpr ⟨List.mem_append_right _ (List.mem_append_left _ (List.mem_of_getElem? (i := 82) rfl)), rfl⟩
theorem wd_83 : (Jvm.Cond.fieldLink "OrderMoney" (29 : Nat) "OrderMoney" "tries" "[LOrderMoney$Try;") ∈ lw_g := List.mem_filter.mpr ⟨List.mem_append_right _ (List.mem_append_left _ (List.mem_of_getElem? (i := 83) rfl)), rfl⟩
theorem wd_84 : (Jvm.Cond.fieldLink "OrderMoney" (95 : Nat) "OrderMoney" "asked" "I") ∈ lw_g := List.mem_filter.mpr ⟨List.mem_append_right _ (List.mem_append_left _ (List.mem_of_getElem? (i := 84) rfl)), rfl⟩
theorem wd_85 : (Jvm.Cond.fieldLink "OrderMoney" (98 : Nat) "OrderMoney" "served" "I") ∈ lw_g := List.mem_filter.mpr ⟨List.mem_append_right _ (List.mem_append_left _ (List.mem_of_getElem? (i := 85) rfl)), rfl⟩
theorem wd_86 : (Jvm.Cond.fieldLink "OrderMoney" (35 : Nat) "OrderMoney" "collected" "[LOrderMoney$Collected;") ∈ lw_g := List.mem_filter.mpr ⟨List.mem_append_right _ (List.mem_append_left _ (List.mem_of_getElem? (i := 86) rfl)), rfl⟩
theorem wd_87 : (Jvm.Cond.fieldLink "OrderMoney" (185 : Nat) "OrderMoney" "collectedCount" "I") ∈ lw_g := List.mem_filter.mpr ⟨List.mem_append_right _ (List.mem_append_left _ (List.mem_of_getElem? (i := 87) rfl)), rfl⟩
theorem wd_88 : (Jvm.Cond.fieldLink "OrderMoney" (39 : Nat) "OrderMoney" "totals" "[J") ∈ lw_g := List.mem_filter.mpr ⟨List.mem_append_right _ (List.mem_append_left _ (List.mem_of_getElem? (i := 88) rfl)), rfl⟩
theorem wd_110 : (Jvm.Cond.methodLink "OrderMoneyLaw" (15 : Nat) ({ cls := "OrderMoney", name := "order", desc := "(IJJII)I" } : Jvm.MethodName)) ∈ lw_g := List.mem_filter.mpr ⟨List.mem_append_right _ (List.mem_append_left _ (List.mem_of_getElem? (i := 110) rfl)), rfl⟩
theorem wd_111 : (Jvm.Cond.instanceMethod ({ cls := "OrderMoney", name := "order", desc := "(IJJII)I" } : Jvm.MethodName)) ∈ lw_g := List.mem_filter.mpr ⟨List.mem_append_right _ (List.mem_append_left _ (List.mem_of_getElem? (i := 111) rfl)), rfl⟩
theorem wd_112 : (Jvm.Cond.selects "OrderMoney" ({ cls := "OrderMoney", name := "order", desc := "(IJJII)I" } : Jvm.MethodName) ({ cls := "OrderMoney", name := "order", desc := "(IJJII)I" } : Jvm.MethodName)) ∈ lw_g := List.mem_filter.mpr ⟨List.mem_append_right _ (List.mem_append_left _ (List.mem_of_getElem? (i := 112) rfl)), rfl⟩
theorem wd_113 : (Jvm.Cond.code ({ cls := "OrderMoney", name := "order", desc := "(IJJII)I" } : Jvm.MethodName) prog_1_method_2_code (10 : Nat) (Option.some Jvm.ClassFile.FieldType.int)) ∈ lw_g := List.mem_filter.mpr ⟨List.mem_append_right _ (List.mem_append_left _ (List.mem_of_getElem? (i := 113) rfl)), rfl⟩
theorem wd_114 : (Jvm.Cond.methodLink "OrderMoney" (47 : Nat) ({ cls := "OrderMoney", name := "officeAt", desc := "(I)LOrderMoney$Office;" } : Jvm.MethodName)) ∈ lw_g := List.mem_filter.mpr ⟨List.mem_append_right _ (List.mem_append_left _ (List.mem_of_getElem? (i := 114) rfl)), rfl⟩
theorem wd_116 : (Jvm.Cond.instanceMethod ({ cls := "OrderMoney", name := "officeAt", desc := "(I)LOrderMoney$Office;" } : Jvm.MethodName)) ∈ lw_g := List.mem_filter.mpr ⟨List.mem_append_right _ (List.mem_append_left _ (List.mem_of_getElem? (i := 116) rfl)), rfl⟩
theorem wd_117 : (Jvm.Cond.code ({ cls := "OrderMoney", name := "officeAt", desc := "(I)LOrderMoney$Office;" } : Jvm.MethodName) prog_1_method_20_code (2 : Nat) (Option.some (Jvm.ClassFile.FieldType.object "OrderMoney$Office"))) ∈ lw_g := List.mem_filter.mpr ⟨List.mem_append_right _ (List.mem_append_left _ (List.mem_of_getElem? (i := 117) rfl)), rfl⟩
theorem wd_118 : (Jvm.Cond.methodLink "OrderMoney" (51 : Nat) ({ cls := "OrderMoney", name := "currencyAt", desc := "(I)LOrderMoney$Currency;" } : Jvm.MethodName)) ∈ lw_g := List.mem_filter.mpr ⟨List.mem_append_right _ (List.mem_append_left _ (List.mem_of_getElem? (i := 118) rfl)), rfl⟩
theorem wd_120 : (Jvm.Cond.instanceMethod ({ cls := "OrderMoney", name := "currencyAt", desc := "(I)LOrderMoney$Currency;" } : Jvm.MethodName)) ∈ lw_g := List.mem_filter.mpr ⟨List.mem_append_right _ (List.mem_append_left _ (List.mem_of_getElem? (i := 120) rfl)), rfl⟩
theorem wd_121 : (Jvm.Cond.code ({ cls := "OrderMoney", name := "currencyAt", desc := "(I)LOrderMoney$Currency;" } : Jvm.MethodName) prog_1_method_21_code (2 : Nat) (Option.some (Jvm.ClassFile.FieldType.object "OrderMoney$Currency"))) ∈ lw_g := List.mem_filter.mpr ⟨List.mem_append_right _ (List.mem_append_left _ (List.mem_of_getElem? (i := 121) rfl)), rfl⟩
theorem wd_122 : (Jvm.Cond.methodLink "OrderMoney" (55 : Nat) ({ cls := "OrderMoney", name := "isOrderable", desc := "(J)Z" } : Jvm.MethodName)) ∈ lw_g := List.mem_filter.mpr ⟨List.mem_append_right _ (List.mem_append_left _ (List.mem_of_getElem? (i := 122) rfl)), rfl⟩
theorem wd_123 : (Jvm.Cond.static ({ cls := "OrderMoney", name := "isOrderable", desc := "(J)Z" } : Jvm.MethodName)) ∈ lw_g := List.mem_filter.mpr ⟨List.mem_append_right _ (List.mem_append_left _ (List.mem_of_getElem? (i := 123) rfl)), rfl⟩
theorem wd_124 : (Jvm.Cond.code ({ cls := "OrderMoney", name := "isOrderable", desc := "(J)Z" } : Jvm.MethodName) prog_1_method_24_code (2 : Nat) (Option.some Jvm.ClassFile.FieldType.boolean)) ∈ lw_g := List.mem_filter.mpr ⟨List.mem_append_right _ (List.mem_append_left _ (List.mem_of_getElem? (i := 124) rfl)), rfl⟩
theorem wd_125 : (Jvm.Cond.constantLong "OrderMoney" (219 : Nat) (500000 : Int64)) ∈ lw_g := List.mem_filter.mpr ⟨List.mem_append_right _ (List.mem_append_left _ (List.mem_of_getElem? (i := 125) rfl)), rfl⟩
theorem wd_126 : (Jvm.Cond.methodLink "OrderMoney" (67 : Nat) ({ cls := "OrderMoney", name := "addOrder", desc := "(LOrderMoney$Office;JJLOrderMoney$Currency;I)I" } : Jvm.MethodName)) ∈ lw_g := List.mem_filter.mpr ⟨List.mem_append_right _ (List.mem_append_left _ (List.mem_of_getElem? (i := 126) rfl)), rfl⟩
theorem wd_128 : (Jvm.Cond.instanceMethod ({ cls := "OrderMoney", name := "addOrder", desc := "(LOrderMoney$Office;JJLOrderMoney$Currency;I)I" } : Jvm.MethodName)) ∈ lw_g := List.mem_filter.mpr ⟨List.mem_append_right _ (List.mem_append_left _ (List.mem_of_getElem? (i := 128) rfl)), rfl⟩
theorem wd_129 : (Jvm.Cond.code ({ cls := "OrderMoney", name := "addOrder", desc := "(LOrderMoney$Office;JJLOrderMoney$Currency;I)I" } : Jvm.MethodName) prog_1_method_27_code (9 : Nat) (Option.some Jvm.ClassFile.FieldType.int)) ∈ lw_g := List.mem_filter.mpr ⟨List.mem_append_right _ (List.mem_append_left _ (List.mem_of_getElem? (i := 129) rfl)), rfl⟩
theorem wd_130 : (Jvm.Cond.methodLink "OrderMoney" (225 : Nat) ({ cls := "OrderMoney", name := "numberOf", desc := "(I)I" } : Jvm.MethodName)) ∈ lw_g := List.mem_filter.mpr ⟨List.mem_append_right _ (List.mem_append_left _ (List.mem_of_getElem? (i := 130) rfl)), rfl⟩
theorem wd_131 : (Jvm.Cond.static ({ cls := "OrderMoney", name := "numberOf", desc := "(I)I" } : Jvm.MethodName)) ∈ lw_g := List.mem_filter.mpr ⟨List.mem_append_right _ (List.mem_append_left _ (List.mem_of_getElem? (i := 131) rfl)), rfl⟩
theorem wd_132 : (Jvm.Cond.code ({ cls := "OrderMoney", name := "numberOf", desc := "(I)I" } : Jvm.MethodName) prog_1_method_28_code (4 : Nat) (Option.some Jvm.ClassFile.FieldType.int)) ∈ lw_g := List.mem_filter.mpr ⟨List.mem_append_right _ (List.mem_append_left _ (List.mem_of_getElem? (i := 132) rfl)), rfl⟩
theorem wd_133 : (Jvm.Cond.instantiable "OrderMoney$Order" (11 : Nat)) ∈ lw_g := List.mem_filter.mpr ⟨List.mem_append_right _ (List.mem_append_left _ (List.mem_of_getElem? (i := 133) rfl)), rfl⟩
theorem wd_134 : (Jvm.Cond.methodLink "OrderMoney" (228 : Nat) ({ cls := "OrderMoney$Order", name := "<init>", desc := "(ILOrderMoney$Office;JJLOrderMoney$Currency;I)V" } : Jvm.MethodName)) ∈ lw_g := List.mem_filter.mpr ⟨List.mem_append_right _ (List.mem_append_left _ (List.mem_of_getElem? (i := 134) rfl)), rfl⟩
theorem wd_135 : (Jvm.Cond.instanceMethod ({ cls := "OrderMoney$Order", name := "<init>", desc := "(ILOrderMoney$Office;JJLOrderMoney$Currency;I)V" } : Jvm.MethodName)) ∈ lw_g := List.mem_filter.mpr ⟨List.mem_append_right _ (List.mem_append_left _ (List.mem_of_getElem? (i := 135) rfl)), rfl⟩
theorem wd_136 : (Jvm.Cond.code ({ cls := "OrderMoney$Order", name := "<init>", desc := "(ILOrderMoney$Office;JJLOrderMoney$Currency;I)V" } : Jvm.MethodName) prog_5_method_1_code (9 : Nat) (Option.none : Option Jvm.ClassFile.FieldType)) ∈ lw_g := List.mem_filter.mpr ⟨List.mem_append_right _ (List.mem_append_left _ (List.mem_of_getElem? (i := 136) rfl)), rfl⟩
theorem wd_137 : (Jvm.Cond.methodLink "OrderMoney$Order" (3 : Nat) ({ cls := "java/lang/Object", name := "<init>", desc := "()V" } : Jvm.MethodName)) ∈ lw_g := List.mem_filter.mpr ⟨List.mem_append_right _ (List.mem_append_left _ (List.mem_of_getElem? (i := 137) rfl)), rfl⟩
theorem wd_138 : (Jvm.Cond.constantLong "OrderMoney$Order" (15 : Nat) (-1 : Int64)) ∈ lw_g := List.mem_filter.mpr ⟨List.mem_append_right _ (List.mem_append_left _ (List.mem_of_getElem? (i := 138) rfl)), rfl⟩
theorem wd_139 : (Jvm.Cond.fieldLink "OrderMoney$Order" (21 : Nat) "OrderMoney$Order" "number" "I") ∈ lw_g := List.mem_filter.mpr ⟨List.mem_append_right _ (List.mem_append_left _ (List.mem_of_getElem? (i := 139) rfl)), rfl⟩
theorem wd_140 : (Jvm.Cond.fieldLinkNest "OrderMoney" (223 : Nat) "OrderMoney$Order" "number" "I" "OrderMoney") ∈ lw_tbl := List.mem_append_right _ (List.mem_append_left _ (List.mem_of_getElem? (i := 140) rfl))
theorem wd_141 : (Jvm.Cond.fieldLink "OrderMoney$Order" (24 : Nat) "OrderMoney$Order" "home" "LOrderMoney$Office;") ∈ lw_g := List.mem_filter.mpr ⟨List.mem_append_right _ (List.mem_append_left _ (List.mem_of_getElem? (i := 141) rfl)), rfl⟩
theorem wd_142 : (Jvm.Cond.fieldLinkNest "OrderMoney" (145 : Nat) "OrderMoney$Order" "home" "LOrderMoney$Office;" "OrderMoney") ∈ lw_tbl := List.mem_append_right _ (List.mem_append_left _ (List.mem_of_getElem? (i := 142) rfl))
theorem wd_143 : (Jvm.Cond.fieldLink "OrderMoney$Order" (28 : Nat) "OrderMoney$Order" "cents" "J") ∈ lw_g := List.mem_filter.mpr ⟨List.mem_append_right _ (List.mem_append_left _ (List.mem_of_getElem? (i := 143) rfl)), rfl⟩
theorem wd_144 : (Jvm.Cond.fieldLinkNest "OrderMoney" (149 : Nat) "OrderMoney$Order" "cents" "J" "OrderMoney") ∈ lw_tbl := List.mem_append_right _ (List.mem_append_left _ (List.mem_of_getElem? (i := 144) rfl))
theorem wd_145 : (Jvm.Cond.fieldLink "OrderMoney$Order" (31 : Nat) "OrderMoney$Order" "until" "J") ∈ lw_g := List.mem_filter.mpr ⟨List.mem_append_right _ (List.mem_append_left _ (List.mem_of_getElem? (i := 145) rfl)), rfl⟩
theorem wd_146 : (Jvm.Cond.fieldLinkNest "OrderMoney" (78 : Nat) "OrderMoney$Order" "until" "J" "OrderMoney") ∈ lw_tbl := List.mem_append_right _ (List.mem_append_left _ (List.mem_of_getElem? (i := 146) rfl))
theorem wd_147 : (Jvm.Cond.fieldLink "OrderMoney$Order" (34 : Nat) "OrderMoney$Order" "currency" "LOrderMoney$Currency;") ∈ lw_g := List.mem_filter.mpr ⟨List.mem_append_right _ (List.mem_append_left _ (List.mem_of_getElem? (i := 147) rfl)), rfl⟩
theorem wd_148 : (Jvm.Cond.fieldLinkNest "OrderMoney" (152 : Nat) "OrderMoney$Order" "currency" "LOrderMoney$Currency;" "OrderMoney") ∈ lw_tbl := List.mem_append_right _ (List.mem_append_left _ (List.mem_of_getElem? (i := 148) rfl))
theorem wd_149 : (Jvm.Cond.fieldLink "OrderMoney$Order" (38 : Nat) "OrderMoney$Order" "proof" "I") ∈ lw_g := List.mem_filter.mpr ⟨List.mem_append_right _ (List.mem_append_left _ (List.mem_of_getElem? (i := 149) rfl)), rfl⟩
theorem wd_150 : (Jvm.Cond.fieldLinkNest "OrderMoney$Office" (54 : Nat) "OrderMoney$Order" "proof" "I" "OrderMoney") ∈ lw_tbl := List.mem_append_right _ (List.mem_append_left _ (List.mem_of_getElem? (i := 150) rfl))
theorem wd_151 : (Jvm.Cond.fieldLinkNest "OrderMoney" (156 : Nat) "OrderMoney$Order" "proof" "I" "OrderMoney") ∈ lw_tbl := List.mem_append_right _ (List.mem_append_left _ (List.mem_of_getElem? (i := 151) rfl))
theorem wd_152 : (Jvm.Cond.fieldLink "OrderMoney$Order" (9 : Nat) "OrderMoney$Order" "state" "I") ∈ lw_g := List.mem_filter.mpr ⟨List.mem_append_right _ (List.mem_append_left _ (List.mem_of_getElem? (i := 152) rfl)), rfl⟩
theorem wd_153 : (Jvm.Cond.fieldLinkNest "OrderMoney" (75 : Nat) "OrderMoney$Order" "state" "I" "OrderMoney") ∈ lw_tbl := List.mem_append_right _ (List.mem_append_left _ (List.mem_of_getElem? (i := 153) rfl))
theorem wd_154 : (Jvm.Cond.fieldLink "OrderMoney$Order" (17 : Nat) "OrderMoney$Order" "barredSince" "J") ∈ lw_g := List.mem_filter.mpr ⟨List.mem_append_right _ (List.mem_append_left _ (List.mem_of_getElem? (i := 154) rfl)), rfl⟩
theorem wd_155 : (Jvm.Cond.fieldLinkNest "OrderMoney" (133 : Nat) "OrderMoney$Order" "barredSince" "J" "OrderMoney") ∈ lw_tbl := List.mem_append_right _ (List.mem_append_left _ (List.mem_of_getElem? (i := 155) rfl))
theorem wd_156 : (Jvm.Cond.fieldLinkNest "OrderMoney$Office" (24 : Nat) "OrderMoney$Order" "lister" "LOrderMoney$Office;" "OrderMoney") ∈ lw_tbl := List.mem_append_right _ (List.mem_append_left _ (List.mem_of_getElem? (i := 156) rfl))
theorem wd_157 : (Jvm.Cond.fieldLink "OrderMoney$Order" (51 : Nat) "OrderMoney$Order" "lister" "LOrderMoney$Office;") ∈ lw_g := List.mem_filter.mpr ⟨List.mem_append_right _ (List.mem_append_left _ (List.mem_of_getElem? (i := 157) rfl)), rfl⟩
theorem wd_158 : (Jvm.Cond.fieldLinkNest "OrderMoney" (165 : Nat) "OrderMoney$Order" "lister" "LOrderMoney$Office;" "OrderMoney") ∈ lw_tbl := List.mem_append_right _ (List.mem_append_left _ (List.mem_of_getElem? (i := 158) rfl))
theorem wd_159 : (Jvm.Cond.fieldLinkNest "OrderMoney" (201 : Nat) "OrderMoney$Order" "payer" "LOrderMoney$Office;" "OrderMoney") ∈ lw_tbl := List.mem_append_right _ (List.mem_append_left _ (List.mem_of_getElem? (i := 159) rfl))
theorem wd_160 : (Jvm.Cond.fieldLinkNest "OrderMoney$Office" (51 : Nat) "OrderMoney$Order" "paidBefore" "LOrderMoney$Order;" "OrderMoney") ∈ lw_tbl := List.mem_append_right _ (List.mem_append_left _ (List.mem_of_getElem? (i := 160) rfl))
theorem wd_184 : (Jvm.Cond.methodLink "OrderMoneyLaw" (20 : Nat) ({ cls := "OrderMoney", name := "pay", desc := "(IJIJ)I" } : Jvm.MethodName)) ∈ lw_g := List.mem_filter.mpr ⟨List.mem_append_right _ (List.mem_append_left _ (List.mem_of_getElem? (i := 184) rfl)), rfl⟩
theorem wd_185 : (Jvm.Cond.instanceMethod ({ cls := "OrderMoney", name := "pay", desc := "(IJIJ)I" } : Jvm.MethodName)) ∈ lw_g := List.mem_filter.mpr ⟨List.mem_append_right _ (List.mem_append_left _ (List.mem_of_getElem? (i := 185) rfl)), rfl⟩
theorem wd_186 : (Jvm.Cond.selects "OrderMoney" ({ cls := "OrderMoney", name := "pay", desc := "(IJIJ)I" } : Jvm.MethodName) ({ cls := "OrderMoney", name := "pay", desc := "(IJIJ)I" } : Jvm.MethodName)) ∈ lw_g := List.mem_filter.mpr ⟨List.mem_append_right _ (List.mem_append_left _ (List.mem_of_getElem? (i := 186) rfl)), rfl⟩
theorem wd_187 : (Jvm.Cond.code ({ cls := "OrderMoney", name := "pay", desc := "(IJIJ)I" } : Jvm.MethodName) prog_1_method_3_code (9 : Nat) (Option.some Jvm.ClassFile.FieldType.int)) ∈ lw_g := List.mem_filter.mpr ⟨List.mem_append_right _ (List.mem_append_left _ (List.mem_of_getElem? (i := 187) rfl)), rfl⟩
theorem wd_188 : (Jvm.Cond.methodLink "OrderMoney" (71 : Nat) ({ cls := "OrderMoney", name := "find", desc := "(J)LOrderMoney$Order;" } : Jvm.MethodName)) ∈ lw_g := List.mem_filter.mpr ⟨List.mem_append_right _ (List.mem_append_left _ (List.mem_of_getElem? (i := 188) rfl)), rfl⟩
theorem wd_190 : (Jvm.Cond.instanceMethod ({ cls := "OrderMoney", name := "find", desc := "(J)LOrderMoney$Order;" } : Jvm.MethodName)) ∈ lw_g := List.mem_filter.mpr ⟨List.mem_append_right _ (List.mem_append_left _ (List.mem_of_getElem? (i := 190) rfl)), rfl⟩
theorem wd_191 : (Jvm.Cond.code ({ cls := "OrderMoney", name := "find", desc := "(J)LOrderMoney$Order;" } : Jvm.MethodName) prog_1_method_26_code (6 : Nat) (Option.some (Jvm.ClassFile.FieldType.object "OrderMoney$Order"))) ∈ lw_g := List.mem_filter.mpr ⟨List.mem_append_right _ (List.mem_append_left _ (List.mem_of_getElem? (i := 191) rfl)), rfl⟩
theorem wd_192 : (Jvm.Cond.constantLong "OrderMoney" (221 : Nat) (10 : Int64)) ∈ lw_g := List.mem_filter.mpr ⟨List.mem_append_right _ (List.mem_append_left _ (List.mem_of_getElem? (i := 192) rfl)), rfl⟩
theorem wd_193 : (Jvm.Cond.methodLink "OrderMoney" (81 : Nat) ({ cls := "OrderMoney$Office", name := "mayTouch", desc := "(LOrderMoney$Order;)Z" } : Jvm.MethodName)) ∈ lw_g := List.mem_filter.mpr ⟨List.mem_append_right _ (List.mem_append_left _ (List.mem_of_getElem? (i := 193) rfl)), rfl⟩
theorem wd_194 : (Jvm.Cond.instanceMethod ({ cls := "OrderMoney$Office", name := "mayTouch", desc := "(LOrderMoney$Order;)Z" } : Jvm.MethodName)) ∈ lw_g := List.mem_filter.mpr ⟨List.mem_append_right _ (List.mem_append_left _ (List.mem_of_getElem? (i := 194) rfl)), rfl⟩
theorem wd_195 : (Jvm.Cond.selects "OrderMoney$Office" ({ cls := "OrderMoney$Office", name := "mayTouch", desc := "(LOrderMoney$Order;)Z" } : Jvm.MethodName) ({ cls := "OrderMoney$Office", name := "mayTouch", desc := "(LOrderMoney$Order;)Z" } : Jvm.MethodName)) ∈ lw_g := List.mem_filter.mpr ⟨List.mem_append_right _ (List.mem_append_left _ (List.mem_of_getElem? (i := 195) rfl)), rfl⟩
theorem wd_196 : (Jvm.Cond.code ({ cls := "OrderMoney$Office", name := "mayTouch", desc := "(LOrderMoney$Order;)Z" } : Jvm.MethodName) prog_4_method_2_code (2 : Nat) (Option.some Jvm.ClassFile.FieldType.boolean)) ∈ lw_g := List.mem_filter.mpr ⟨List.mem_append_right _ (List.mem_append_left _ (List.mem_of_getElem? (i := 196) rfl)), rfl⟩
theorem wd_197 : (Jvm.Cond.constantLong "OrderMoney" (85 : Nat) (86400 : Int64)) ∈ lw_g := List.mem_filter.mpr ⟨List.mem_append_right _ (List.mem_append_left _ (List.mem_of_getElem? (i := 197) rfl)), rfl⟩
theorem wd_198 : (Jvm.Cond.methodLink "OrderMoney" (87 : Nat) ({ cls := "OrderMoney", name := "goThroughSteps", desc := "(LOrderMoney$Office;LOrderMoney$Order;IJ)I" } : Jvm.MethodName)) ∈ lw_g := List.mem_filter.mpr ⟨List.mem_append_right _ (List.mem_append_left _ (List.mem_of_getElem? (i := 198) rfl)), rfl⟩
theorem wd_200 : (Jvm.Cond.instanceMethod ({ cls := "OrderMoney", name := "goThroughSteps", desc := "(LOrderMoney$Office;LOrderMoney$Order;IJ)I" } : Jvm.MethodName)) ∈ lw_g := List.mem_filter.mpr ⟨List.mem_append_right _ (List.mem_append_left _ (List.mem_of_getElem? (i := 200) rfl)), rfl⟩
theorem wd_201 : (Jvm.Cond.code ({ cls := "OrderMoney", name := "goThroughSteps", desc := "(LOrderMoney$Office;LOrderMoney$Order;IJ)I" } : Jvm.MethodName) prog_1_method_29_code (9 : Nat) (Option.some Jvm.ClassFile.FieldType.int)) ∈ lw_g := List.mem_filter.mpr ⟨List.mem_append_right _ (List.mem_append_left _ (List.mem_of_getElem? (i := 201) rfl)), rfl⟩
theorem wd_202 : (Jvm.Cond.methodLink "OrderMoney" (231 : Nat) ({ cls := "OrderMoney$Office", name := "takesFailing", desc := "(I)Z" } : Jvm.MethodName)) ∈ lw_g := List.mem_filter.mpr ⟨List.mem_append_right _ (List.mem_append_left _ (List.mem_of_getElem? (i := 202) rfl)), rfl⟩
theorem wd_203 : (Jvm.Cond.instanceMethod ({ cls := "OrderMoney$Office", name := "takesFailing", desc := "(I)Z" } : Jvm.MethodName)) ∈ lw_g := List.mem_filter.mpr ⟨List.mem_append_right _ (List.mem_append_left _ (List.mem_of_getElem? (i := 203) rfl)), rfl⟩
theorem wd_204 : (Jvm.Cond.selects "OrderMoney$Office" ({ cls := "OrderMoney$Office", name := "takesFailing", desc := "(I)Z" } : Jvm.MethodName) ({ cls := "OrderMoney$Office", name := "takesFailing", desc := "(I)Z" } : Jvm.MethodName)) ∈ lw_g := List.mem_filter.mpr ⟨List.mem_append_right _ (List.mem_append_left _ (List.mem_of_getElem? (i := 204) rfl)), rfl⟩
theorem wd_205 : (Jvm.Cond.code ({ cls := "OrderMoney$Office", name := "takesFailing", desc := "(I)Z" } : Jvm.MethodName) prog_4_method_4_code (4 : Nat) (Option.some Jvm.ClassFile.FieldType.boolean)) ∈ lw_g := List.mem_filter.mpr ⟨List.mem_append_right _ (List.mem_append_left _ (List.mem_of_getElem? (i := 205) rfl)), rfl⟩
theorem wd_206 : (Jvm.Cond.methodLink "OrderMoney" (234 : Nat) ({ cls := "OrderMoney", name := "takeStep", desc := "(ILOrderMoney$Office;LOrderMoney$Order;IJ)I" } : Jvm.MethodName)) ∈ lw_g := List.mem_filter.mpr ⟨List.mem_append_right _ (List.mem_append_left _ (List.mem_of_getElem? (i := 206) rfl)), rfl⟩
theorem wd_208 : (Jvm.Cond.instanceMethod ({ cls := "OrderMoney", name := "takeStep", desc := "(ILOrderMoney$Office;LOrderMoney$Order;IJ)I" } : Jvm.MethodName)) ∈ lw_g := List.mem_filter.mpr ⟨List.mem_append_right _ (List.mem_append_left _ (List.mem_of_getElem? (i := 208) rfl)), rfl⟩
theorem wd_209 : (Jvm.Cond.code ({ cls := "OrderMoney", name := "takeStep", desc := "(ILOrderMoney$Office;LOrderMoney$Order;IJ)I" } : Jvm.MethodName) prog_1_method_30_code (7 : Nat) (Option.some Jvm.ClassFile.FieldType.int)) ∈ lw_g := List.mem_filter.mpr ⟨List.mem_append_right _ (List.mem_append_left _ (List.mem_of_getElem? (i := 209) rfl)), rfl⟩
theorem wd_210 : (Jvm.Cond.methodLink "OrderMoney" (208 : Nat) ({ cls := "OrderMoney$Order", name := "sum", desc := "()J" } : Jvm.MethodName)) ∈ lw_g := List.mem_filter.mpr ⟨List.mem_append_right _ (List.mem_append_left _ (List.mem_of_getElem? (i := 210) rfl)), rfl⟩
theorem wd_211 : (Jvm.Cond.instanceMethod ({ cls := "OrderMoney$Order", name := "sum", desc := "()J" } : Jvm.MethodName)) ∈ lw_g := List.mem_filter.mpr ⟨List.mem_append_right _ (List.mem_append_left _ (List.mem_of_getElem? (i := 211) rfl)), rfl⟩
theorem wd_212 : (Jvm.Cond.selects "OrderMoney$Order" ({ cls := "OrderMoney$Order", name := "sum", desc := "()J" } : Jvm.MethodName) ({ cls := "OrderMoney$Order", name := "sum", desc := "()J" } : Jvm.MethodName)) ∈ lw_g := List.mem_filter.mpr ⟨List.mem_append_right _ (List.mem_append_left _ (List.mem_of_getElem? (i := 212) rfl)), rfl⟩
theorem wd_213 : (Jvm.Cond.code ({ cls := "OrderMoney$Order", name := "sum", desc := "()J" } : Jvm.MethodName) prog_5_method_3_code (1 : Nat) (Option.some Jvm.ClassFile.FieldType.long)) ∈ lw_g := List.mem_filter.mpr ⟨List.mem_append_right _ (List.mem_append_left _ (List.mem_of_getElem? (i := 213) rfl)), rfl⟩
theorem wd_214 : (Jvm.Cond.constantLong "OrderMoney$Order" (46 : Nat) (1000 : Int64)) ∈ lw_g := List.mem_filter.mpr ⟨List.mem_append_right _ (List.mem_append_left _ (List.mem_of_getElem? (i := 214) rfl)), rfl⟩
theorem wd_215 : (Jvm.Cond.methodLink "OrderMoney" (242 : Nat) ({ cls := "OrderMoney$Office", name := "keepsLimit", desc := "(JJ)Z" } : Jvm.MethodName)) ∈ lw_g := List.mem_filter.mpr ⟨List.mem_append_right _ (List.mem_append_left _ (List.mem_of_getElem? (i := 215) rfl)), rfl⟩
theorem wd_216 : (Jvm.Cond.instanceMethod ({ cls := "OrderMoney$Office", name := "keepsLimit", desc := "(JJ)Z" } : Jvm.MethodName)) ∈ lw_g := List.mem_filter.mpr ⟨List.mem_append_right _ (List.mem_append_left _ (List.mem_of_getElem? (i := 216) rfl)), rfl⟩
theorem wd_217 : (Jvm.Cond.selects "OrderMoney$Office" ({ cls := "OrderMoney$Office", name := "keepsLimit", desc := "(JJ)Z" } : Jvm.MethodName) ({ cls := "OrderMoney$Office", name := "keepsLimit", desc := "(JJ)Z" } : Jvm.MethodName)) ∈ lw_g := List.mem_filter.mpr ⟨List.mem_append_right _ (List.mem_append_left _ (List.mem_of_getElem? (i := 217) rfl)), rfl⟩
theorem wd_218 : (Jvm.Cond.code ({ cls := "OrderMoney$Office", name := "keepsLimit", desc := "(JJ)Z" } : Jvm.MethodName) prog_4_method_5_code (7 : Nat) (Option.some Jvm.ClassFile.FieldType.boolean)) ∈ lw_g := List.mem_filter.mpr ⟨List.mem_append_right _ (List.mem_append_left _ (List.mem_of_getElem? (i := 218) rfl)), rfl⟩
theorem wd_219 : (Jvm.Cond.methodLink "OrderMoney" (246 : Nat) ({ cls := "OrderMoney$Office", name := "giveOut", desc := "(J)Z" } : Jvm.MethodName)) ∈ lw_g := List.mem_filter.mpr ⟨List.mem_append_right _ (List.mem_append_left _ (List.mem_of_getElem? (i := 219) rfl)), rfl⟩
theorem wd_220 : (Jvm.Cond.instanceMethod ({ cls := "OrderMoney$Office", name := "giveOut", desc := "(J)Z" } : Jvm.MethodName)) ∈ lw_g := List.mem_filter.mpr ⟨List.mem_append_right _ (List.mem_append_left _ (List.mem_of_getElem? (i := 220) rfl)), rfl⟩
theorem wd_221 : (Jvm.Cond.selects "OrderMoney$Office" ({ cls := "OrderMoney$Office", name := "giveOut", desc := "(J)Z" } : Jvm.MethodName) ({ cls := "OrderMoney$Office", name := "giveOut", desc := "(J)Z" } : Jvm.MethodName)) ∈ lw_g := List.mem_filter.mpr ⟨List.mem_append_right _ (List.mem_append_left _ (List.mem_of_getElem? (i := 221) rfl)), rfl⟩
theorem wd_222 : (Jvm.Cond.code ({ cls := "OrderMoney$Office", name := "giveOut", desc := "(J)Z" } : Jvm.MethodName) prog_4_method_6_code (3 : Nat) (Option.some Jvm.ClassFile.FieldType.boolean)) ∈ lw_g := List.mem_filter.mpr ⟨List.mem_append_right _ (List.mem_append_left _ (List.mem_of_getElem? (i := 222) rfl)), rfl⟩
theorem wd_223 : (Jvm.Cond.methodLink "OrderMoney" (249 : Nat) ({ cls := "OrderMoney", name := "writePaid", desc := "(LOrderMoney$Office;LOrderMoney$Order;J)V" } : Jvm.MethodName)) ∈ lw_g := List.mem_filter.mpr ⟨List.mem_append_right _ (List.mem_append_left _ (List.mem_of_getElem? (i := 223) rfl)), rfl⟩
theorem wd_225 : (Jvm.Cond.instanceMethod ({ cls := "OrderMoney", name := "writePaid", desc := "(LOrderMoney$Office;LOrderMoney$Order;J)V" } : Jvm.MethodName)) ∈ lw_g := List.mem_filter.mpr ⟨List.mem_append_right _ (List.mem_append_left _ (List.mem_of_getElem? (i := 225) rfl)), rfl⟩
theorem wd_226 : (Jvm.Cond.code ({ cls := "OrderMoney", name := "writePaid", desc := "(LOrderMoney$Office;LOrderMoney$Order;J)V" } : Jvm.MethodName) prog_1_method_32_code (5 : Nat) (Option.none : Option Jvm.ClassFile.FieldType)) ∈ lw_g := List.mem_filter.mpr ⟨List.mem_append_right _ (List.mem_append_left _ (List.mem_of_getElem? (i := 226) rfl)), rfl⟩
theorem wd_227 : (Jvm.Cond.methodLink "OrderMoney" (136 : Nat) ({ cls := "OrderMoney$Order", name := "become", desc := "(I)V" } : Jvm.MethodName)) ∈ lw_g := List.mem_filter.mpr ⟨List.mem_append_right _ (List.mem_append_left _ (List.mem_of_getElem? (i := 227) rfl)), rfl⟩
theorem wd_228 : (Jvm.Cond.instanceMethod ({ cls := "OrderMoney$Order", name := "become", desc := "(I)V" } : Jvm.MethodName)) ∈ lw_g := List.mem_filter.mpr ⟨List.mem_append_right _ (List.mem_append_left _ (List.mem_of_getElem? (i := 228) rfl)), rfl⟩
theorem wd_229 : (Jvm.Cond.selects "OrderMoney$Order" ({ cls := "OrderMoney$Order", name := "become", desc := "(I)V" } : Jvm.MethodName) ({ cls := "OrderMoney$Order", name := "become", desc := "(I)V" } : Jvm.MethodName)) ∈ lw_g := List.mem_filter.mpr ⟨List.mem_append_right _ (List.mem_append_left _ (List.mem_of_getElem? (i := 229) rfl)), rfl⟩
theorem wd_230 : (Jvm.Cond.code ({ cls := "OrderMoney$Order", name := "become", desc := "(I)V" } : Jvm.MethodName) prog_5_method_4_code (2 : Nat) (Option.none : Option Jvm.ClassFile.FieldType)) ∈ lw_g := List.mem_filter.mpr ⟨List.mem_append_right _ (List.mem_append_left _ (List.mem_of_getElem? (i := 230) rfl)), rfl⟩
theorem wd_231 : (Jvm.Cond.methodLink "OrderMoney$Order" (48 : Nat) ({ cls := "OrderMoney$Order", name := "leaveList", desc := "()V" } : Jvm.MethodName)) ∈ lw_g := List.mem_filter.mpr ⟨List.mem_append_right _ (List.mem_append_left _ (List.mem_of_getElem? (i := 231) rfl)), rfl⟩
theorem wd_232 : (Jvm.Cond.instanceMethod ({ cls := "OrderMoney$Order", name := "leaveList", desc := "()V" } : Jvm.MethodName)) ∈ lw_g := List.mem_filter.mpr ⟨List.mem_append_right _ (List.mem_append_left _ (List.mem_of_getElem? (i := 232) rfl)), rfl⟩
theorem wd_233 : (Jvm.Cond.selects "OrderMoney$Order" ({ cls := "OrderMoney$Order", name := "leaveList", desc := "()V" } : Jvm.MethodName) ({ cls := "OrderMoney$Order", name := "leaveList", desc := "()V" } : Jvm.MethodName)) ∈ lw_g := List.mem_filter.mpr ⟨List.mem_append_right _ (List.mem_append_left _ (List.mem_of_getElem? (i := 233) rfl)), rfl⟩
theorem wd_234 : (Jvm.Cond.code ({ cls := "OrderMoney$Order", name := "leaveList", desc := "()V" } : Jvm.MethodName) prog_5_method_5_code (1 : Nat) (Option.none : Option Jvm.ClassFile.FieldType)) ∈ lw_g := List.mem_filter.mpr ⟨List.mem_append_right _ (List.mem_append_left _ (List.mem_of_getElem? (i := 234) rfl)), rfl⟩
theorem wd_235 : (Jvm.Cond.methodLink "OrderMoney" (253 : Nat) ({ cls := "OrderMoney$Office", name := "know", desc := "(LOrderMoney$Order;J)V" } : Jvm.MethodName)) ∈ lw_g := List.mem_filter.mpr ⟨List.mem_append_right _ (List.mem_append_left _ (List.mem_of_getElem? (i := 235) rfl)), rfl⟩
theorem wd_236 : (Jvm.Cond.instanceMethod ({ cls := "OrderMoney$Office", name := "know", desc := "(LOrderMoney$Order;J)V" } : Jvm.MethodName)) ∈ lw_g := List.mem_filter.mpr ⟨List.mem_append_right _ (List.mem_append_left _ (List.mem_of_getElem? (i := 236) rfl)), rfl⟩
theorem wd_237 : (Jvm.Cond.selects "OrderMoney$Office" ({ cls := "OrderMoney$Office", name := "know", desc := "(LOrderMoney$Order;J)V" } : Jvm.MethodName) ({ cls := "OrderMoney$Office", name := "know", desc := "(LOrderMoney$Order;J)V" } : Jvm.MethodName)) ∈ lw_g := List.mem_filter.mpr ⟨List.mem_append_right _ (List.mem_append_left _ (List.mem_of_getElem? (i := 237) rfl)), rfl⟩
theorem wd_238 : (Jvm.Cond.code ({ cls := "OrderMoney$Office", name := "know", desc := "(LOrderMoney$Order;J)V" } : Jvm.MethodName) prog_4_method_7_code (4 : Nat) (Option.none : Option Jvm.ClassFile.FieldType)) ∈ lw_g := List.mem_filter.mpr ⟨List.mem_append_right _ (List.mem_append_left _ (List.mem_of_getElem? (i := 238) rfl)), rfl⟩
theorem wd_239 : (Jvm.Cond.methodLink "OrderMoney$Office" (47 : Nat) ({ cls := "OrderMoney$Order", name := "sum", desc := "()J" } : Jvm.MethodName)) ∈ lw_g := List.mem_filter.mpr ⟨List.mem_append_right _ (List.mem_append_left _ (List.mem_of_getElem? (i := 239) rfl)), rfl⟩
theorem wd_240 : (Jvm.Cond.methodLink "OrderMoney" (257 : Nat) ({ cls := "OrderMoney$Office", name := "knownWith", desc := "(I)I" } : Jvm.MethodName)) ∈ lw_g := List.mem_filter.mpr ⟨List.mem_append_right _ (List.mem_append_right _ (List.mem_append_left _ (List.mem_of_getElem? (i := 0) rfl))), rfl⟩
theorem wd_241 : (Jvm.Cond.instanceMethod ({ cls := "OrderMoney$Office", name := "knownWith", desc := "(I)I" } : Jvm.MethodName)) ∈ lw_g := List.mem_filter.mpr ⟨List.mem_append_right _ (List.mem_append_right _ (List.mem_append_left _ (List.mem_of_getElem? (i := 1) rfl))), rfl⟩
theorem wd_242 : (Jvm.Cond.selects "OrderMoney$Office" ({ cls := "OrderMoney$Office", name := "knownWith", desc := "(I)I" } : Jvm.MethodName) ({ cls := "OrderMoney$Office", name := "knownWith", desc := "(I)I" } : Jvm.MethodName)) ∈ lw_g := List.mem_filter.mpr ⟨List.mem_append_right _ (List.mem_append_right _ (List.mem_append_left _ (List.mem_of_getElem? (i := 2) rfl))), rfl⟩
theorem wd_243 : (Jvm.Cond.code ({ cls := "OrderMoney$Office", name := "knownWith", desc := "(I)I" } : Jvm.MethodName) prog_4_method_8_code (4 : Nat) (Option.some Jvm.ClassFile.FieldType.int)) ∈ lw_g := List.mem_filter.mpr ⟨List.mem_append_right _ (List.mem_append_right _ (List.mem_append_left _ (List.mem_of_getElem? (i := 3) rfl))), rfl⟩
theorem wd_244 : (Jvm.Cond.methodLink "OrderMoney" (238 : Nat) ({ cls := "OrderMoney", name := "undoSteps", desc := "(ILOrderMoney$Office;LOrderMoney$Order;)V" } : Jvm.MethodName)) ∈ lw_g := List.mem_filter.mpr ⟨List.mem_append_right _ (List.mem_append_right _ (List.mem_append_left _ (List.mem_of_getElem? (i := 4) rfl))), rfl⟩
theorem wd_246 : (Jvm.Cond.instanceMethod ({ cls := "OrderMoney", name := "undoSteps", desc := "(ILOrderMoney$Office;LOrderMoney$Order;)V" } : Jvm.MethodName)) ∈ lw_g := List.mem_filter.mpr ⟨List.mem_append_right _ (List.mem_append_right _ (List.mem_append_left _ (List.mem_of_getElem? (i := 6) rfl))), rfl⟩
theorem wd_247 : (Jvm.Cond.code ({ cls := "OrderMoney", name := "undoSteps", desc := "(ILOrderMoney$Office;LOrderMoney$Order;)V" } : Jvm.MethodName) prog_1_method_31_code (5 : Nat) (Option.none : Option Jvm.ClassFile.FieldType)) ∈ lw_g := List.mem_filter.mpr ⟨List.mem_append_right _ (List.mem_append_right _ (List.mem_append_left _ (List.mem_of_getElem? (i := 7) rfl))), rfl⟩
theorem wd_248 : (Jvm.Cond.methodLink "OrderMoneyLaw" (25 : Nat) ({ cls := "OrderMoney", name := "fails", desc := "(II)I" } : Jvm.MethodName)) ∈ lw_g := List.mem_filter.mpr ⟨List.mem_append_right _ (List.mem_append_right _ (List.mem_append_left _ (List.mem_of_getElem? (i := 8) rfl))), rfl⟩
theorem wd_249 : (Jvm.Cond.instanceMethod ({ cls := "OrderMoney", name := "fails", desc := "(II)I" } : Jvm.MethodName)) ∈ lw_g := List.mem_filter.mpr ⟨List.mem_append_right _ (List.mem_append_right _ (List.mem_append_left _ (List.mem_of_getElem? (i := 9) rfl))), rfl⟩
theorem wd_250 : (Jvm.Cond.selects "OrderMoney" ({ cls := "OrderMoney", name := "fails", desc := "(II)I" } : Jvm.MethodName) ({ cls := "OrderMoney", name := "fails", desc := "(II)I" } : Jvm.MethodName)) ∈ lw_g := List.mem_filter.mpr ⟨List.mem_append_right _ (List.mem_append_right _ (List.mem_append_left _ (List.mem_of_getElem? (i := 10) rfl))), rfl⟩
theorem wd_251 : (Jvm.Cond.code ({ cls := "OrderMoney", name := "fails", desc := "(II)I" } : Jvm.MethodName) prog_1_method_4_code (4 : Nat) (Option.some Jvm.ClassFile.FieldType.int)) ∈ lw_g := List.mem_filter.mpr ⟨List.mem_append_right _ (List.mem_append_right _ (List.mem_append_left _ (List.mem_of_getElem? (i := 11) rfl))), rfl⟩
theorem wd_252 : (Jvm.Cond.methodLink "OrderMoney" (91 : Nat) ({ cls := "OrderMoney$Office", name := "tellToFail", desc := "(I)Z" } : Jvm.MethodName)) ∈ lw_g := List.mem_filter.mpr ⟨List.mem_append_right _ (List.mem_append_right _ (List.mem_append_left _ (List.mem_of_getElem? (i := 12) rfl))), rfl⟩
theorem wd_253 : (Jvm.Cond.instanceMethod ({ cls := "OrderMoney$Office", name := "tellToFail", desc := "(I)Z" } : Jvm.MethodName)) ∈ lw_g := List.mem_filter.mpr ⟨List.mem_append_right _ (List.mem_append_right _ (List.mem_append_left _ (List.mem_of_getElem? (i := 13) rfl))), rfl⟩
theorem wd_254 : (Jvm.Cond.selects "OrderMoney$Office" ({ cls := "OrderMoney$Office", name := "tellToFail", desc := "(I)Z" } : Jvm.MethodName) ({ cls := "OrderMoney$Office", name := "tellToFail", desc := "(I)Z" } : Jvm.MethodName)) ∈ lw_g := List.mem_filter.mpr ⟨List.mem_append_right _ (List.mem_append_right _ (List.mem_append_left _ (List.mem_of_getElem? (i := 14) rfl))), rfl⟩
theorem wd_255 : (Jvm.Cond.code ({ cls := "OrderMoney$Office", name := "tellToFail", desc := "(I)Z" } : Jvm.MethodName) prog_4_method_3_code (4 : Nat) (Option.some Jvm.ClassFile.FieldType.boolean)) ∈ lw_g := List.mem_filter.mpr ⟨List.mem_append_right _ (List.mem_append_right _ (List.mem_append_left _ (List.mem_of_getElem? (i := 15) rfl))), rfl⟩
theorem wd_256 : (Jvm.Cond.methodLink "OrderMoneyLaw" (30 : Nat) ({ cls := "OrderMoney", name := "ask", desc := "(IJIJ)I" } : Jvm.MethodName)) ∈ lw_g := List.mem_filter.mpr ⟨List.mem_append_right _ (List.mem_append_right _ (List.mem_append_left _ (List.mem_of_getElem? (i := 16) rfl))), rfl⟩
theorem wd_257 : (Jvm.Cond.instanceMethod ({ cls := "OrderMoney", name := "ask", desc := "(IJIJ)I" } : Jvm.MethodName)) ∈ lw_g := List.mem_filter.mpr ⟨List.mem_append_right _ (List.mem_append_right _ (List.mem_append_left _ (List.mem_of_getElem? (i := 17) rfl))), rfl⟩
theorem wd_258 : (Jvm.Cond.selects "OrderMoney" ({ cls := "OrderMoney", name := "ask", desc := "(IJIJ)I" } : Jvm.MethodName) ({ cls := "OrderMoney", name := "ask", desc := "(IJIJ)I" } : Jvm.MethodName)) ∈ lw_g := List.mem_filter.mpr ⟨List.mem_append_right _ (List.mem_append_right _ (List.mem_append_left _ (List.mem_of_getElem? (i := 18) rfl))), rfl⟩
theorem wd_259 : (Jvm.Cond.code ({ cls := "OrderMoney", name := "ask", desc := "(IJIJ)I" } : Jvm.MethodName) prog_1_method_5_code (7 : Nat) (Option.some Jvm.ClassFile.FieldType.int)) ∈ lw_g := List.mem_filter.mpr ⟨List.mem_append_right _ (List.mem_append_right _ (List.mem_append_left _ (List.mem_of_getElem? (i := 19) rfl))), rfl⟩
theorem wd_260 : (Jvm.Cond.methodLink "OrderMoney" (101 : Nat) ({ cls := "OrderMoney", name := "placeOfTry", desc := "(I)I" } : Jvm.MethodName)) ∈ lw_g := List.mem_filter.mpr ⟨List.mem_append_right _ (List.mem_append_right _ (List.mem_append_left _ (List.mem_of_getElem? (i := 20) rfl))), rfl⟩
theorem wd_261 : (Jvm.Cond.static ({ cls := "OrderMoney", name := "placeOfTry", desc := "(I)I" } : Jvm.MethodName)) ∈ lw_g := List.mem_filter.mpr ⟨List.mem_append_right _ (List.mem_append_right _ (List.mem_append_left _ (List.mem_of_getElem? (i := 21) rfl))), rfl⟩
theorem wd_262 : (Jvm.Cond.code ({ cls := "OrderMoney", name := "placeOfTry", desc := "(I)I" } : Jvm.MethodName) prog_1_method_23_code (1 : Nat) (Option.some Jvm.ClassFile.FieldType.int)) ∈ lw_g := List.mem_filter.mpr ⟨List.mem_append_right _ (List.mem_append_right _ (List.mem_append_left _ (List.mem_of_getElem? (i := 22) rfl))), rfl⟩
theorem wd_263 : (Jvm.Cond.methodLink "OrderMoney" (216 : Nat) ({ cls := "java/lang/Math", name := "floorMod", desc := "(II)I" } : Jvm.MethodName)) ∈ lw_g := List.mem_filter.mpr ⟨List.mem_append_right _ (List.mem_append_right _ (List.mem_append_left _ (List.mem_of_getElem? (i := 23) rfl))), rfl⟩
theorem wd_264 : (Jvm.Cond.static ({ cls := "java/lang/Math", name := "floorMod", desc := "(II)I" } : Jvm.MethodName)) ∈ lw_g := List.mem_filter.mpr ⟨List.mem_append_right _ (List.mem_append_right _ (List.mem_append_left _ (List.mem_of_getElem? (i := 24) rfl))), rfl⟩
theorem wd_265 : (Jvm.Cond.code ({ cls := "java/lang/Math", name := "floorMod", desc := "(II)I" } : Jvm.MethodName) prog_9_method_50_code (3 : Nat) (Option.some Jvm.ClassFile.FieldType.int)) ∈ lw_g := List.mem_filter.mpr ⟨List.mem_append_right _ (List.mem_append_right _ (List.mem_append_left _ (List.mem_of_getElem? (i := 25) rfl))), rfl⟩
theorem wd_266 : (Jvm.Cond.instantiable "OrderMoney$Try" (5 : Nat)) ∈ lw_g := List.mem_filter.mpr ⟨List.mem_append_right _ (List.mem_append_right _ (List.mem_append_left _ (List.mem_of_getElem? (i := 26) rfl))), rfl⟩
theorem wd_267 : (Jvm.Cond.methodLink "OrderMoney" (105 : Nat) ({ cls := "OrderMoney$Try", name := "<init>", desc := "(IJIJ)V" } : Jvm.MethodName)) ∈ lw_g := List.mem_filter.mpr ⟨List.mem_append_right _ (List.mem_append_right _ (List.mem_append_left _ (List.mem_of_getElem? (i := 27) rfl))), rfl⟩
theorem wd_268 : (Jvm.Cond.instanceMethod ({ cls := "OrderMoney$Try", name := "<init>", desc := "(IJIJ)V" } : Jvm.MethodName)) ∈ lw_g := List.mem_filter.mpr ⟨List.mem_append_right _ (List.mem_append_right _ (List.mem_append_left _ (List.mem_of_getElem? (i := 28) rfl))), rfl⟩
theorem wd_269 : (Jvm.Cond.code ({ cls := "OrderMoney$Try", name := "<init>", desc := "(IJIJ)V" } : Jvm.MethodName) prog_6_method_1_code (7 : Nat) (Option.none : Option Jvm.ClassFile.FieldType)) ∈ lw_g := List.mem_filter.mpr ⟨List.mem_append_right _ (List.mem_append_right _ (List.mem_append_left _ (List.mem_of_getElem? (i := 29) rfl))), rfl⟩
theorem wd_270 : (Jvm.Cond.methodLink "OrderMoney$Try" (3 : Nat) ({ cls := "java/lang/Object", name := "<init>", desc := "()V" } : Jvm.MethodName)) ∈ lw_g := List.mem_filter.mpr ⟨List.mem_append_right _ (List.mem_append_right _ (List.mem_append_left _ (List.mem_of_getElem? (i := 30) rfl))), rfl⟩
theorem wd_271 : (Jvm.Cond.fieldLink "OrderMoney$Try" (15 : Nat) "OrderMoney$Try" "office" "I") ∈ lw_g := List.mem_filter.mpr ⟨List.mem_append_right _ (List.mem_append_right _ (List.mem_append_left _ (List.mem_of_getElem? (i := 31) rfl))), rfl⟩
theorem wd_272 : (Jvm.Cond.fieldLinkNest "OrderMoney" (114 : Nat) "OrderMoney$Try" "office" "I" "OrderMoney") ∈ lw_tbl := List.mem_append_right _ (List.mem_append_right _ (List.mem_append_left _ (List.mem_of_getElem? (i := 32) rfl)))
theorem wd_273 : (Jvm.Cond.fieldLink "OrderMoney$Try" (18 : Nat) "OrderMoney$Try" "number" "J") ∈ lw_g := List.mem_filter.mpr ⟨List.mem_append_right _ (List.mem_append_right _ (List.mem_append_left _ (List.mem_of_getElem? (i := 33) rfl))), rfl⟩
theorem wd_274 : (Jvm.Cond.fieldLinkNest "OrderMoney" (117 : Nat) "OrderMoney$Try" "number" "J" "OrderMoney") ∈ lw_tbl := List.mem_append_right _ (List.mem_append_right _ (List.mem_append_left _ (List.mem_of_getElem? (i := 34) rfl)))
theorem wd_275 : (Jvm.Cond.fieldLink "OrderMoney$Try" (22 : Nat) "OrderMoney$Try" "proof" "I") ∈ lw_g := List.mem_filter.mpr ⟨List.mem_append_right _ (List.mem_append_right _ (List.mem_append_left _ (List.mem_of_getElem? (i := 35) rfl))), rfl⟩
theorem wd_276 : (Jvm.Cond.fieldLinkNest "OrderMoney" (120 : Nat) "OrderMoney$Try" "proof" "I" "OrderMoney") ∈ lw_tbl := List.mem_append_right _ (List.mem_append_right _ (List.mem_append_left _ (List.mem_of_getElem? (i := 36) rfl)))
theorem wd_277 : (Jvm.Cond.fieldLink "OrderMoney$Try" (25 : Nat) "OrderMoney$Try" "t" "J") ∈ lw_g := List.mem_filter.mpr ⟨List.mem_append_right _ (List.mem_append_right _ (List.mem_append_left _ (List.mem_of_getElem? (i := 37) rfl))), rfl⟩
theorem wd_278 : (Jvm.Cond.fieldLinkNest "OrderMoney" (123 : Nat) "OrderMoney$Try" "t" "J" "OrderMoney") ∈ lw_tbl := List.mem_append_right _ (List.mem_append_right _ (List.mem_append_left _ (List.mem_of_getElem? (i := 38) rfl)))
theorem wd_279 : (Jvm.Cond.fieldLink "OrderMoney$Try" (9 : Nat) "OrderMoney$Try" "cameTo" "I") ∈ lw_g := List.mem_filter.mpr ⟨List.mem_append_right _ (List.mem_append_right _ (List.mem_append_left _ (List.mem_of_getElem? (i := 39) rfl))), rfl⟩
theorem wd_280 : (Jvm.Cond.fieldLinkNest "OrderMoney" (130 : Nat) "OrderMoney$Try" "cameTo" "I" "OrderMoney") ∈ lw_tbl := List.mem_append_right _ (List.mem_append_right _ (List.mem_append_left _ (List.mem_of_getElem? (i := 40) rfl)))
theorem wd_292 : (Jvm.Cond.methodLink "OrderMoneyLaw" (34 : Nat) ({ cls := "OrderMoney", name := "serve", desc := "(I)I" } : Jvm.MethodName)) ∈ lw_g := List.mem_filter.mpr ⟨List.mem_append_right _ (List.mem_append_right _ (List.mem_append_left _ (List.mem_of_getElem? (i := 52) rfl))), rfl⟩
theorem wd_293 : (Jvm.Cond.instanceMethod ({ cls := "OrderMoney", name := "serve", desc := "(I)I" } : Jvm.MethodName)) ∈ lw_g := List.mem_filter.mpr ⟨List.mem_append_right _ (List.mem_append_right _ (List.mem_append_left _ (List.mem_of_getElem? (i := 53) rfl))), rfl⟩
theorem wd_294 : (Jvm.Cond.selects "OrderMoney" ({ cls := "OrderMoney", name := "serve", desc := "(I)I" } : Jvm.MethodName) ({ cls := "OrderMoney", name := "serve", desc := "(I)I" } : Jvm.MethodName)) ∈ lw_g := List.mem_filter.mpr ⟨List.mem_append_right _ (List.mem_append_right _ (List.mem_append_left _ (List.mem_of_getElem? (i := 54) rfl))), rfl⟩
theorem wd_295 : (Jvm.Cond.code ({ cls := "OrderMoney", name := "serve", desc := "(I)I" } : Jvm.MethodName) prog_1_method_6_code (5 : Nat) (Option.some Jvm.ClassFile.FieldType.int)) ∈ lw_g := List.mem_filter.mpr ⟨List.mem_append_right _ (List.mem_append_right _ (List.mem_append_left _ (List.mem_of_getElem? (i := 55) rfl))), rfl⟩
theorem wd_296 : (Jvm.Cond.methodLink "OrderMoney" (108 : Nat) ({ cls := "java/lang/Math", name := "min", desc := "(II)I" } : Jvm.MethodName)) ∈ lw_g := List.mem_filter.mpr ⟨List.mem_append_right _ (List.mem_append_right _ (List.mem_append_left _ (List.mem_of_getElem? (i := 56) rfl))), rfl⟩
theorem wd_297 : (Jvm.Cond.static ({ cls := "java/lang/Math", name := "min", desc := "(II)I" } : Jvm.MethodName)) ∈ lw_g := List.mem_filter.mpr ⟨List.mem_append_right _ (List.mem_append_right _ (List.mem_append_left _ (List.mem_of_getElem? (i := 57) rfl))), rfl⟩
theorem wd_298 : (Jvm.Cond.code ({ cls := "java/lang/Math", name := "min", desc := "(II)I" } : Jvm.MethodName) prog_9_method_69_code (2 : Nat) (Option.some Jvm.ClassFile.FieldType.int)) ∈ lw_g := List.mem_filter.mpr ⟨List.mem_append_right _ (List.mem_append_right _ (List.mem_append_left _ (List.mem_of_getElem? (i := 58) rfl))), rfl⟩
theorem wd_299 : (Jvm.Cond.methodLink "OrderMoney" (126 : Nat) ({ cls := "OrderMoney", name := "pay", desc := "(IJIJ)I" } : Jvm.MethodName)) ∈ lw_g := List.mem_filter.mpr ⟨List.mem_append_right _ (List.mem_append_right _ (List.mem_append_left _ (List.mem_of_getElem? (i := 59) rfl))), rfl⟩
theorem wd_300 : (Jvm.Cond.methodLink "OrderMoneyLaw" (39 : Nat) ({ cls := "OrderMoney", name := "answer", desc := "(I)I" } : Jvm.MethodName)) ∈ lw_g := List.mem_filter.mpr ⟨List.mem_append_right _ (List.mem_append_right _ (List.mem_append_left _ (List.mem_of_getElem? (i := 60) rfl))), rfl⟩
theorem wd_301 : (Jvm.Cond.instanceMethod ({ cls := "OrderMoney", name := "answer", desc := "(I)I" } : Jvm.MethodName)) ∈ lw_g := List.mem_filter.mpr ⟨List.mem_append_right _ (List.mem_append_right _ (List.mem_append_left _ (List.mem_of_getElem? (i := 61) rfl))), rfl⟩
theorem wd_302 : (Jvm.Cond.selects "OrderMoney" ({ cls := "OrderMoney", name := "answer", desc := "(I)I" } : Jvm.MethodName) ({ cls := "OrderMoney", name := "answer", desc := "(I)I" } : Jvm.MethodName)) ∈ lw_g := List.mem_filter.mpr ⟨List.mem_append_right _ (List.mem_append_right _ (List.mem_append_left _ (List.mem_of_getElem? (i := 62) rfl))), rfl⟩
theorem wd_303 : (Jvm.Cond.code ({ cls := "OrderMoney", name := "answer", desc := "(I)I" } : Jvm.MethodName) prog_1_method_7_code (3 : Nat) (Option.some Jvm.ClassFile.FieldType.int)) ∈ lw_g := List.mem_filter.mpr ⟨List.mem_append_right _ (List.mem_append_right _ (List.mem_append_left _ (List.mem_of_getElem? (i := 63) rfl))), rfl⟩
theorem wd_304 : (Jvm.Cond.methodLink "OrderMoneyLaw" (43 : Nat) ({ cls := "OrderMoney", name := "bar", desc := "(JJ)I" } : Jvm.MethodName)) ∈ lw_g := List.mem_filter.mpr ⟨List.mem_append_right _ (List.mem_append_right _ (List.mem_append_left _ (List.mem_of_getElem? (i := 64) rfl))), rfl⟩
theorem wd_305 : (Jvm.Cond.instanceMethod ({ cls := "OrderMoney", name := "bar", desc := "(JJ)I" } : Jvm.MethodName)) ∈ lw_g := List.mem_filter.mpr ⟨List.mem_append_right _ (List.mem_append_right _ (List.mem_append_left _ (List.mem_of_getElem? (i := 65) rfl))), rfl⟩
theorem wd_306 : (Jvm.Cond.selects "OrderMoney" ({ cls := "OrderMoney", name := "bar", desc := "(JJ)I" } : Jvm.MethodName) ({ cls := "OrderMoney", name := "bar", desc := "(JJ)I" } : Jvm.MethodName)) ∈ lw_g := List.mem_filter.mpr ⟨List.mem_append_right _ (List.mem_append_right _ (List.mem_append_left _ (List.mem_of_getElem? (i := 66) rfl))), rfl⟩
theorem wd_307 : (Jvm.Cond.code ({ cls := "OrderMoney", name := "bar", desc := "(JJ)I" } : Jvm.MethodName) prog_1_method_8_code (6 : Nat) (Option.some Jvm.ClassFile.FieldType.int)) ∈ lw_g := List.mem_filter.mpr ⟨List.mem_append_right _ (List.mem_append_right _ (List.mem_append_left _ (List.mem_of_getElem? (i := 67) rfl))), rfl⟩
theorem wd_308 : (Jvm.Cond.methodLink "OrderMoneyLaw" (48 : Nat) ({ cls := "OrderMoney", name := "since", desc := "(J)J" } : Jvm.MethodName)) ∈ lw_g := List.mem_filter.mpr ⟨List.mem_append_right _ (List.mem_append_right _ (List.mem_append_left _ (List.mem_of_getElem? (i := 68) rfl))), rfl⟩
theorem wd_309 : (Jvm.Cond.instanceMethod ({ cls := "OrderMoney", name := "since", desc := "(J)J" } : Jvm.MethodName)) ∈ lw_g := List.mem_filter.mpr ⟨List.mem_append_right _ (List.mem_append_right _ (List.mem_append_left _ (List.mem_of_getElem? (i := 69) rfl))), rfl⟩
theorem wd_310 : (Jvm.Cond.selects "OrderMoney" ({ cls := "OrderMoney", name := "since", desc := "(J)J" } : Jvm.MethodName) ({ cls := "OrderMoney", name := "since", desc := "(J)J" } : Jvm.MethodName)) ∈ lw_g := List.mem_filter.mpr ⟨List.mem_append_right _ (List.mem_append_right _ (List.mem_append_left _ (List.mem_of_getElem? (i := 70) rfl))), rfl⟩
theorem wd_311 : (Jvm.Cond.code ({ cls := "OrderMoney", name := "since", desc := "(J)J" } : Jvm.MethodName) prog_1_method_9_code (4 : Nat) (Option.some Jvm.ClassFile.FieldType.long)) ∈ lw_g := List.mem_filter.mpr ⟨List.mem_append_right _ (List.mem_append_right _ (List.mem_append_left _ (List.mem_of_getElem? (i := 71) rfl))), rfl⟩
theorem wd_312 : (Jvm.Cond.constantLong "OrderMoney" (139 : Nat) (-101 : Int64)) ∈ lw_g := List.mem_filter.mpr ⟨List.mem_append_right _ (List.mem_append_right _ (List.mem_append_left _ (List.mem_of_getElem? (i := 72) rfl))), rfl⟩
theorem wd_313 : (Jvm.Cond.methodLink "OrderMoneyLaw" (53 : Nat) ({ cls := "OrderMoney", name := "replace", desc := "(J)I" } : Jvm.MethodName)) ∈ lw_g := List.mem_filter.mpr ⟨List.mem_append_right _ (List.mem_append_right _ (List.mem_append_left _ (List.mem_of_getElem? (i := 73) rfl))), rfl⟩
theorem wd_314 : (Jvm.Cond.instanceMethod ({ cls := "OrderMoney", name := "replace", desc := "(J)I" } : Jvm.MethodName)) ∈ lw_g := List.mem_filter.mpr ⟨List.mem_append_right _ (List.mem_append_right _ (List.mem_append_left _ (List.mem_of_getElem? (i := 74) rfl))), rfl⟩
theorem wd_315 : (Jvm.Cond.selects "OrderMoney" ({ cls := "OrderMoney", name := "replace", desc := "(J)I" } : Jvm.MethodName) ({ cls := "OrderMoney", name := "replace", desc := "(J)I" } : Jvm.MethodName)) ∈ lw_g := List.mem_filter.mpr ⟨List.mem_append_right _ (List.mem_append_right _ (List.mem_append_left _ (List.mem_of_getElem? (i := 75) rfl))), rfl⟩
theorem wd_316 : (Jvm.Cond.code ({ cls := "OrderMoney", name := "replace", desc := "(J)I" } : Jvm.MethodName) prog_1_method_10_code (4 : Nat) (Option.some Jvm.ClassFile.FieldType.int)) ∈ lw_g := List.mem_filter.mpr ⟨List.mem_append_right _ (List.mem_append_right _ (List.mem_append_left _ (List.mem_of_getElem? (i := 76) rfl))), rfl⟩
theorem wd_317 : (Jvm.Cond.methodLink "OrderMoney" (141 : Nat) ({ cls := "OrderMoney$Order", name := "isUnpaid", desc := "()Z" } : Jvm.MethodName)) ∈ lw_g := List.mem_filter.mpr ⟨List.mem_append_right _ (List.mem_append_right _ (List.mem_append_left _ (List.mem_of_getElem? (i := 77) rfl))), rfl⟩
theorem wd_318 : (Jvm.Cond.instanceMethod ({ cls := "OrderMoney$Order", name := "isUnpaid", desc := "()Z" } : Jvm.MethodName)) ∈ lw_g := List.mem_filter.mpr ⟨List.mem_append_right _ (List.mem_append_right _ (List.mem_append_left _ (List.mem_of_getElem? (i := 78) rfl))), rfl⟩
theorem wd_319 : (Jvm.Cond.selects "OrderMoney$Order" ({ cls := "OrderMoney$Order", name := "isUnpaid", desc := "()Z" } : Jvm.MethodName) ({ cls := "OrderMoney$Order", name := "isUnpaid", desc := "()Z" } : Jvm.MethodName)) ∈ lw_g := List.mem_filter.mpr ⟨List.mem_append_right _ (List.mem_append_right _ (List.mem_append_left _ (List.mem_of_getElem? (i := 79) rfl))), rfl⟩
theorem wd_320 : (Jvm.Cond.code ({ cls := "OrderMoney$Order", name := "isUnpaid", desc := "()Z" } : Jvm.MethodName) prog_5_method_2_code (1 : Nat) (Option.some Jvm.ClassFile.FieldType.boolean)) ∈ lw_g := List.mem_filter.mpr ⟨List.mem_append_right _ (List.mem_append_right _ (List.mem_append_left _ (List.mem_of_getElem? (i := 80) rfl))), rfl⟩
theorem wd_321 : (Jvm.Cond.methodLink "OrderMoneyLaw" (58 : Nat) ({ cls := "OrderMoney", name := "cut", desc := "(IZ)I" } : Jvm.MethodName)) ∈ lw_g := List.mem_filter.mpr ⟨List.mem_append_right _ (List.mem_append_right _ (List.mem_append_left _ (List.mem_of_getElem? (i := 81) rfl))), rfl⟩
theorem wd_322 : (Jvm.Cond.instanceMethod ({ cls := "OrderMoney", name := "cut", desc := "(IZ)I" } : Jvm.MethodName)) ∈ lw_g := List.mem_filter.mpr ⟨List.mem_append_right _ (List.mem_append_right _ (List.mem_append_left _ (List.mem_of_getElem? (i := 82) rfl))), rfl⟩
theorem wd_323 : (Jvm.Cond.selects "OrderMoney" ({ cls := "OrderMoney", name := "cut", desc := "(IZ)I" } : Jvm.MethodName) ({ cls := "OrderMoney", name := "cut", desc := "(IZ)I" } : Jvm.MethodName)) ∈ lw_g := List.mem_filter.mpr ⟨List.mem_append_right _ (List.mem_append_right _ (List.mem_append_left _ (List.mem_of_getElem? (i := 83) rfl))), rfl⟩
theorem wd_324 : (Jvm.Cond.code ({ cls := "OrderMoney", name := "cut", desc := "(IZ)I" } : Jvm.MethodName) prog_1_method_11_code (4 : Nat) (Option.some Jvm.ClassFile.FieldType.int)) ∈ lw_g := List.mem_filter.mpr ⟨List.mem_append_right _ (List.mem_append_right _ (List.mem_append_left _ (List.mem_of_getElem? (i := 84) rfl))), rfl⟩
theorem wd_325 : (Jvm.Cond.methodLink "OrderMoney" (161 : Nat) ({ cls := "OrderMoney", name := "emptyListOf", desc := "(LOrderMoney$Office;)V" } : Jvm.MethodName)) ∈ lw_g := List.mem_filter.mpr ⟨List.mem_append_right _ (List.mem_append_right _ (List.mem_append_left _ (List.mem_of_getElem? (i := 85) rfl))), rfl⟩
theorem wd_327 : (Jvm.Cond.instanceMethod ({ cls := "OrderMoney", name := "emptyListOf", desc := "(LOrderMoney$Office;)V" } : Jvm.MethodName)) ∈ lw_g := List.mem_filter.mpr ⟨List.mem_append_right _ (List.mem_append_right _ (List.mem_append_left _ (List.mem_of_getElem? (i := 87) rfl))), rfl⟩
theorem wd_328 : (Jvm.Cond.code ({ cls := "OrderMoney", name := "emptyListOf", desc := "(LOrderMoney$Office;)V" } : Jvm.MethodName) prog_1_method_33_code (4 : Nat) (Option.none : Option Jvm.ClassFile.FieldType)) ∈ lw_g := List.mem_filter.mpr ⟨List.mem_append_right _ (List.mem_append_right _ (List.mem_append_left _ (List.mem_of_getElem? (i := 88) rfl))), rfl⟩
theorem wd_329 : (Jvm.Cond.methodLink "OrderMoney" (260 : Nat) ({ cls := "OrderMoney$Order", name := "leaveList", desc := "()V" } : Jvm.MethodName)) ∈ lw_g := List.mem_filter.mpr ⟨List.mem_append_right _ (List.mem_append_right _ (List.mem_append_left _ (List.mem_of_getElem? (i := 89) rfl))), rfl⟩
theorem wd_330 : (Jvm.Cond.methodLink "OrderMoneyLaw" (63 : Nat) ({ cls := "OrderMoney", name := "list", desc := "(IJ)I" } : Jvm.MethodName)) ∈ lw_g := List.mem_filter.mpr ⟨List.mem_append_right _ (List.mem_append_right _ (List.mem_append_left _ (List.mem_of_getElem? (i := 90) rfl))), rfl⟩
theorem wd_331 : (Jvm.Cond.instanceMethod ({ cls := "OrderMoney", name := "list", desc := "(IJ)I" } : Jvm.MethodName)) ∈ lw_g := List.mem_filter.mpr ⟨List.mem_append_right _ (List.mem_append_right _ (List.mem_append_left _ (List.mem_of_getElem? (i := 91) rfl))), rfl⟩
theorem wd_332 : (Jvm.Cond.selects "OrderMoney" ({ cls := "OrderMoney", name := "list", desc := "(IJ)I" } : Jvm.MethodName) ({ cls := "OrderMoney", name := "list", desc := "(IJ)I" } : Jvm.MethodName)) ∈ lw_g := List.mem_filter.mpr ⟨List.mem_append_right _ (List.mem_append_right _ (List.mem_append_left _ (List.mem_of_getElem? (i := 92) rfl))), rfl⟩
theorem wd_333 : (Jvm.Cond.code ({ cls := "OrderMoney", name := "list", desc := "(IJ)I" } : Jvm.MethodName) prog_1_method_12_code (6 : Nat) (Option.some Jvm.ClassFile.FieldType.int)) ∈ lw_g := List.mem_filter.mpr ⟨List.mem_append_right _ (List.mem_append_right _ (List.mem_append_left _ (List.mem_of_getElem? (i := 93) rfl))), rfl⟩
theorem wd_334 : (Jvm.Cond.methodLink "OrderMoneyLaw" (68 : Nat) ({ cls := "OrderMoney", name := "set", desc := "(IIJ)I" } : Jvm.MethodName)) ∈ lw_g := List.mem_filter.mpr ⟨List.mem_append_right _ (List.mem_append_right _ (List.mem_append_left _ (List.mem_of_getElem? (i := 94) rfl))), rfl⟩
theorem wd_335 : (Jvm.Cond.instanceMethod ({ cls := "OrderMoney", name := "set", desc := "(IIJ)I" } : Jvm.MethodName)) ∈ lw_g := List.mem_filter.mpr ⟨List.mem_append_right _ (List.mem_append_right _ (List.mem_append_left _ (List.mem_of_getElem? (i := 95) rfl))), rfl⟩
theorem wd_336 : (Jvm.Cond.selects "OrderMoney" ({ cls := "OrderMoney", name := "set", desc := "(IIJ)I" } : Jvm.MethodName) ({ cls := "OrderMoney", name := "set", desc := "(IIJ)I" } : Jvm.MethodName)) ∈ lw_g := List.mem_filter.mpr ⟨List.mem_append_right _ (List.mem_append_right _ (List.mem_append_left _ (List.mem_of_getElem? (i := 96) rfl))), rfl⟩
theorem wd_337 : (Jvm.Cond.code ({ cls := "OrderMoney", name := "set", desc := "(IIJ)I" } : Jvm.MethodName) prog_1_method_13_code (5 : Nat) (Option.some Jvm.ClassFile.FieldType.int)) ∈ lw_g := List.mem_filter.mpr ⟨List.mem_append_right _ (List.mem_append_right _ (List.mem_append_left _ (List.mem_of_getElem? (i := 97) rfl))), rfl⟩
theorem wd_338 : (Jvm.Cond.methodLink "OrderMoney" (171 : Nat) ({ cls := "OrderMoney", name := "changeTill", desc := "(LOrderMoney$Office;J)I" } : Jvm.MethodName)) ∈ lw_g := List.mem_filter.mpr ⟨List.mem_append_right _ (List.mem_append_right _ (List.mem_append_left _ (List.mem_of_getElem? (i := 98) rfl))), rfl⟩
theorem wd_340 : (Jvm.Cond.instanceMethod ({ cls := "OrderMoney", name := "changeTill", desc := "(LOrderMoney$Office;J)I" } : Jvm.MethodName)) ∈ lw_g := List.mem_filter.mpr ⟨List.mem_append_right _ (List.mem_append_right _ (List.mem_append_left _ (List.mem_of_getElem? (i := 100) rfl))), rfl⟩
theorem wd_341 : (Jvm.Cond.code ({ cls := "OrderMoney", name := "changeTill", desc := "(LOrderMoney$Office;J)I" } : Jvm.MethodName) prog_1_method_34_code (4 : Nat) (Option.some Jvm.ClassFile.FieldType.int)) ∈ lw_g := List.mem_filter.mpr ⟨List.mem_append_right _ (List.mem_append_right _ (List.mem_append_left _ (List.mem_of_getElem? (i := 101) rfl))), rfl⟩
theorem wd_342 : (Jvm.Cond.constantLong "OrderMoney" (263 : Nat) (-1000000000 : Int64)) ∈ lw_g := List.mem_filter.mpr ⟨List.mem_append_right _ (List.mem_append_right _ (List.mem_append_left _ (List.mem_of_getElem? (i := 102) rfl))), rfl⟩
theorem wd_343 : (Jvm.Cond.constantLong "OrderMoney" (265 : Nat) (1000000000 : Int64)) ∈ lw_g := List.mem_filter.mpr ⟨List.mem_append_right _ (List.mem_append_right _ (List.mem_append_left _ (List.mem_of_getElem? (i := 103) rfl))), rfl⟩
theorem wd_344 : (Jvm.Cond.methodLink "OrderMoney" (175 : Nat) ({ cls := "OrderMoney", name := "changeLimit", desc := "(LOrderMoney$Office;J)I" } : Jvm.MethodName)) ∈ lw_g := List.mem_filter.mpr ⟨List.mem_append_right _ (List.mem_append_right _ (List.mem_append_left _ (List.mem_of_getElem? (i := 104) rfl))), rfl⟩
theorem wd_345 : (Jvm.Cond.static ({ cls := "OrderMoney", name := "changeLimit", desc := "(LOrderMoney$Office;J)I" } : Jvm.MethodName)) ∈ lw_g := List.mem_filter.mpr ⟨List.mem_append_right _ (List.mem_append_right _ (List.mem_append_left _ (List.mem_of_getElem? (i := 105) rfl))), rfl⟩
theorem wd_346 : (Jvm.Cond.code ({ cls := "OrderMoney", name := "changeLimit", desc := "(LOrderMoney$Office;J)I" } : Jvm.MethodName) prog_1_method_35_code (3 : Nat) (Option.some Jvm.ClassFile.FieldType.int)) ∈ lw_g := List.mem_filter.mpr ⟨List.mem_append_right _ (List.mem_append_right _ (List.mem_append_left _ (List.mem_of_getElem? (i := 106) rfl))), rfl⟩
theorem wd_347 : (Jvm.Cond.constantLong "OrderMoney" (214 : Nat) (-1 : Int64)) ∈ lw_g := List.mem_filter.mpr ⟨List.mem_append_right _ (List.mem_append_right _ (List.mem_append_left _ (List.mem_of_getElem? (i := 107) rfl))), rfl⟩
theorem wd_348 : (Jvm.Cond.methodLink "OrderMoney" (178 : Nat) ({ cls := "OrderMoney", name := "changeRate", desc := "(LOrderMoney$Currency;J)I" } : Jvm.MethodName)) ∈ lw_g := List.mem_filter.mpr ⟨List.mem_append_right _ (List.mem_append_right _ (List.mem_append_left _ (List.mem_of_getElem? (i := 108) rfl))), rfl⟩
theorem wd_349 : (Jvm.Cond.static ({ cls := "OrderMoney", name := "changeRate", desc := "(LOrderMoney$Currency;J)I" } : Jvm.MethodName)) ∈ lw_g := List.mem_filter.mpr ⟨List.mem_append_right _ (List.mem_append_right _ (List.mem_append_left _ (List.mem_of_getElem? (i := 109) rfl))), rfl⟩
theorem wd_350 : (Jvm.Cond.code ({ cls := "OrderMoney", name := "changeRate", desc := "(LOrderMoney$Currency;J)I" } : Jvm.MethodName) prog_1_method_36_code (3 : Nat) (Option.some Jvm.ClassFile.FieldType.int)) ∈ lw_g := List.mem_filter.mpr ⟨List.mem_append_right _ (List.mem_append_right _ (List.mem_append_left _ (List.mem_of_getElem? (i := 110) rfl))), rfl⟩
theorem wd_351 : (Jvm.Cond.constantLong "OrderMoney" (270 : Nat) (100000 : Int64)) ∈ lw_g := List.mem_filter.mpr ⟨List.mem_append_right _ (List.mem_append_right _ (List.mem_append_left _ (List.mem_of_getElem? (i := 111) rfl))), rfl⟩
theorem wd_352 : (Jvm.Cond.methodLink "OrderMoneyLaw" (73 : Nat) ({ cls := "OrderMoney", name := "collect", desc := "(IJI)I" } : Jvm.MethodName)) ∈ lw_g := List.mem_filter.mpr ⟨List.mem_append_right _ (List.mem_append_right _ (List.mem_append_left _ (List.mem_of_getElem? (i := 112) rfl))), rfl⟩
theorem wd_353 : (Jvm.Cond.instanceMethod ({ cls := "OrderMoney", name := "collect", desc := "(IJI)I" } : Jvm.MethodName)) ∈ lw_g := List.mem_filter.mpr ⟨List.mem_append_right _ (List.mem_append_right _ (List.mem_append_left _ (List.mem_of_getElem? (i := 113) rfl))), rfl⟩
theorem wd_354 : (Jvm.Cond.selects "OrderMoney" ({ cls := "OrderMoney", name := "collect", desc := "(IJI)I" } : Jvm.MethodName) ({ cls := "OrderMoney", name := "collect", desc := "(IJI)I" } : Jvm.MethodName)) ∈ lw_g := List.mem_filter.mpr ⟨List.mem_append_right _ (List.mem_append_right _ (List.mem_append_left _ (List.mem_of_getElem? (i := 114) rfl))), rfl⟩
theorem wd_355 : (Jvm.Cond.code ({ cls := "OrderMoney", name := "collect", desc := "(IJI)I" } : Jvm.MethodName) prog_1_method_14_code (6 : Nat) (Option.some Jvm.ClassFile.FieldType.int)) ∈ lw_g := List.mem_filter.mpr ⟨List.mem_append_right _ (List.mem_append_right _ (List.mem_append_left _ (List.mem_of_getElem? (i := 115) rfl))), rfl⟩
theorem wd_356 : (Jvm.Cond.methodLink "OrderMoney" (182 : Nat) ({ cls := "OrderMoney", name := "isCollectDay", desc := "(I)Z" } : Jvm.MethodName)) ∈ lw_g := List.mem_filter.mpr ⟨List.mem_append_right _ (List.mem_append_right _ (List.mem_append_left _ (List.mem_of_getElem? (i := 116) rfl))), rfl⟩
theorem wd_357 : (Jvm.Cond.static ({ cls := "OrderMoney", name := "isCollectDay", desc := "(I)Z" } : Jvm.MethodName)) ∈ lw_g := List.mem_filter.mpr ⟨List.mem_append_right _ (List.mem_append_right _ (List.mem_append_left _ (List.mem_of_getElem? (i := 117) rfl))), rfl⟩
theorem wd_358 : (Jvm.Cond.code ({ cls := "OrderMoney", name := "isCollectDay", desc := "(I)Z" } : Jvm.MethodName) prog_1_method_25_code (1 : Nat) (Option.some Jvm.ClassFile.FieldType.boolean)) ∈ lw_g := List.mem_filter.mpr ⟨List.mem_append_right _ (List.mem_append_right _ (List.mem_append_left _ (List.mem_of_getElem? (i := 118) rfl))), rfl⟩
theorem wd_359 : (Jvm.Cond.instantiable "OrderMoney$Collected" (3 : Nat)) ∈ lw_g := List.mem_filter.mpr ⟨List.mem_append_right _ (List.mem_append_right _ (List.mem_append_left _ (List.mem_of_getElem? (i := 119) rfl))), rfl⟩
theorem wd_360 : (Jvm.Cond.methodLink "OrderMoney" (188 : Nat) ({ cls := "OrderMoney$Collected", name := "<init>", desc := "(LOrderMoney$Office;JI)V" } : Jvm.MethodName)) ∈ lw_g := List.mem_filter.mpr ⟨List.mem_append_right _ (List.mem_append_right _ (List.mem_append_left _ (List.mem_of_getElem? (i := 120) rfl))), rfl⟩
theorem wd_361 : (Jvm.Cond.instanceMethod ({ cls := "OrderMoney$Collected", name := "<init>", desc := "(LOrderMoney$Office;JI)V" } : Jvm.MethodName)) ∈ lw_g := List.mem_filter.mpr ⟨List.mem_append_right _ (List.mem_append_right _ (List.mem_append_left _ (List.mem_of_getElem? (i := 121) rfl))), rfl⟩
theorem wd_362 : (Jvm.Cond.code ({ cls := "OrderMoney$Collected", name := "<init>", desc := "(LOrderMoney$Office;JI)V" } : Jvm.MethodName) prog_2_method_1_code (5 : Nat) (Option.none : Option Jvm.ClassFile.FieldType)) ∈ lw_g := List.mem_filter.mpr ⟨List.mem_append_right _ (List.mem_append_right _ (List.mem_append_left _ (List.mem_of_getElem? (i := 122) rfl))), rfl⟩
theorem wd_363 : (Jvm.Cond.methodLink "OrderMoney$Collected" (1 : Nat) ({ cls := "java/lang/Object", name := "<init>", desc := "()V" } : Jvm.MethodName)) ∈ lw_g := List.mem_filter.mpr ⟨List.mem_append_right _ (List.mem_append_right _ (List.mem_append_left _ (List.mem_of_getElem? (i := 123) rfl))), rfl⟩
theorem wd_364 : (Jvm.Cond.fieldLink "OrderMoney$Collected" (7 : Nat) "OrderMoney$Collected" "office" "LOrderMoney$Office;") ∈ lw_g := List.mem_filter.mpr ⟨List.mem_append_right _ (List.mem_append_right _ (List.mem_append_left _ (List.mem_of_getElem? (i := 124) rfl))), rfl⟩
theorem wd_365 : (Jvm.Cond.fieldLinkNest "OrderMoney" (278 : Nat) "OrderMoney$Collected" "office" "LOrderMoney$Office;" "OrderMoney") ∈ lw_tbl := List.mem_append_right _ (List.mem_append_right _ (List.mem_append_left _ (List.mem_of_getElem? (i := 125) rfl)))
theorem wd_366 : (Jvm.Cond.fieldLink "OrderMoney$Collected" (13 : Nat) "OrderMoney$Collected" "cents" "J") ∈ lw_g := List.mem_filter.mpr ⟨List.mem_append_right _ (List.mem_append_right _ (List.mem_append_left _ (List.mem_of_getElem? (i := 126) rfl))), rfl⟩
theorem wd_367 : (Jvm.Cond.fieldLinkNest "OrderMoney" (280 : Nat) "OrderMoney$Collected" "cents" "J" "OrderMoney") ∈ lw_tbl := List.mem_append_right _ (List.mem_append_right _ (List.mem_append_left _ (List.mem_of_getElem? (i := 127) rfl)))
theorem wd_368 : (Jvm.Cond.fieldLink "OrderMoney$Collected" (17 : Nat) "OrderMoney$Collected" "day" "I") ∈ lw_g := List.mem_filter.mpr ⟨List.mem_append_right _ (List.mem_append_right _ (List.mem_append_left _ (List.mem_of_getElem? (i := 128) rfl))), rfl⟩
theorem wd_369 : (Jvm.Cond.fieldLinkNest "OrderMoney" (275 : Nat) "OrderMoney$Collected" "day" "I" "OrderMoney") ∈ lw_tbl := List.mem_append_right _ (List.mem_append_right _ (List.mem_append_left _ (List.mem_of_getElem? (i := 129) rfl)))
theorem wd_377 : (Jvm.Cond.methodLink "OrderMoneyLaw" (78 : Nat) ({ cls := "OrderMoney", name := "pass", desc := "(I)I" } : Jvm.MethodName)) ∈ lw_g := List.mem_filter.mpr ⟨List.mem_append_right _ (List.mem_append_right _ (List.mem_append_left _ (List.mem_of_getElem? (i := 137) rfl))), rfl⟩
theorem wd_378 : (Jvm.Cond.instanceMethod ({ cls := "OrderMoney", name := "pass", desc := "(I)I" } : Jvm.MethodName)) ∈ lw_g := List.mem_filter.mpr ⟨List.mem_append_right _ (List.mem_append_right _ (List.mem_append_left _ (List.mem_of_getElem? (i := 138) rfl))), rfl⟩
theorem wd_379 : (Jvm.Cond.selects "OrderMoney" ({ cls := "OrderMoney", name := "pass", desc := "(I)I" } : Jvm.MethodName) ({ cls := "OrderMoney", name := "pass", desc := "(I)I" } : Jvm.MethodName)) ∈ lw_g := List.mem_filter.mpr ⟨List.mem_append_right _ (List.mem_append_right _ (List.mem_append_left _ (List.mem_of_getElem? (i := 139) rfl))), rfl⟩
theorem wd_380 : (Jvm.Cond.code ({ cls := "OrderMoney", name := "pass", desc := "(I)I" } : Jvm.MethodName) prog_1_method_15_code (6 : Nat) (Option.some Jvm.ClassFile.FieldType.int)) ∈ lw_g := List.mem_filter.mpr ⟨List.mem_append_right _ (List.mem_append_right _ (List.mem_append_left _ (List.mem_of_getElem? (i := 140) rfl))), rfl⟩
theorem wd_381 : (Jvm.Cond.methodLink "OrderMoney" (191 : Nat) ({ cls := "OrderMoney", name := "passOn", desc := "(LOrderMoney$Collected;I)Z" } : Jvm.MethodName)) ∈ lw_g := List.mem_filter.mpr ⟨List.mem_append_right _ (List.mem_append_right _ (List.mem_append_left _ (List.mem_of_getElem? (i := 141) rfl))), rfl⟩
theorem wd_383 : (Jvm.Cond.instanceMethod ({ cls := "OrderMoney", name := "passOn", desc := "(LOrderMoney$Collected;I)Z" } : Jvm.MethodName)) ∈ lw_g := List.mem_filter.mpr ⟨List.mem_append_right _ (List.mem_append_right _ (List.mem_append_left _ (List.mem_of_getElem? (i := 143) rfl))), rfl⟩
theorem wd_384 : (Jvm.Cond.code ({ cls := "OrderMoney", name := "passOn", desc := "(LOrderMoney$Collected;I)Z" } : Jvm.MethodName) prog_1_method_37_code (3 : Nat) (Option.some Jvm.ClassFile.FieldType.boolean)) ∈ lw_g := List.mem_filter.mpr ⟨List.mem_append_right _ (List.mem_append_right _ (List.mem_append_left _ (List.mem_of_getElem? (i := 144) rfl))), rfl⟩
theorem wd_385 : (Jvm.Cond.methodLink "OrderMoneyLaw" (82 : Nat) ({ cls := "OrderMoney", name := "tick", desc := "(J)I" } : Jvm.MethodName)) ∈ lw_g := List.mem_filter.mpr ⟨List.mem_append_right _ (List.mem_append_right _ (List.mem_append_left _ (List.mem_of_getElem? (i := 145) rfl))), rfl⟩
theorem wd_386 : (Jvm.Cond.instanceMethod ({ cls := "OrderMoney", name := "tick", desc := "(J)I" } : Jvm.MethodName)) ∈ lw_g := List.mem_filter.mpr ⟨List.mem_append_right _ (List.mem_append_right _ (List.mem_append_left _ (List.mem_of_getElem? (i := 146) rfl))), rfl⟩
theorem wd_387 : (Jvm.Cond.selects "OrderMoney" ({ cls := "OrderMoney", name := "tick", desc := "(J)I" } : Jvm.MethodName) ({ cls := "OrderMoney", name := "tick", desc := "(J)I" } : Jvm.MethodName)) ∈ lw_g := List.mem_filter.mpr ⟨List.mem_append_right _ (List.mem_append_right _ (List.mem_append_left _ (List.mem_of_getElem? (i := 147) rfl))), rfl⟩
theorem wd_388 : (Jvm.Cond.code ({ cls := "OrderMoney", name := "tick", desc := "(J)I" } : Jvm.MethodName) prog_1_method_16_code (6 : Nat) (Option.some Jvm.ClassFile.FieldType.int)) ∈ lw_g := List.mem_filter.mpr ⟨List.mem_append_right _ (List.mem_append_right _ (List.mem_append_left _ (List.mem_of_getElem? (i := 148) rfl))), rfl⟩
theorem wd_389 : (Jvm.Cond.methodLink "OrderMoney" (195 : Nat) ({ cls := "OrderMoney", name := "sendBack", desc := "(LOrderMoney$Order;)Z" } : Jvm.MethodName)) ∈ lw_g := List.mem_filter.mpr ⟨List.mem_append_right _ (List.mem_append_right _ (List.mem_append_left _ (List.mem_of_getElem? (i := 149) rfl))), rfl⟩
theorem wd_391 : (Jvm.Cond.instanceMethod ({ cls := "OrderMoney", name := "sendBack", desc := "(LOrderMoney$Order;)Z" } : Jvm.MethodName)) ∈ lw_g := List.mem_filter.mpr ⟨List.mem_append_right _ (List.mem_append_right _ (List.mem_append_left _ (List.mem_of_getElem? (i := 151) rfl))), rfl⟩
theorem wd_392 : (Jvm.Cond.code ({ cls := "OrderMoney", name := "sendBack", desc := "(LOrderMoney$Order;)Z" } : Jvm.MethodName) prog_1_method_38_code (2 : Nat) (Option.some Jvm.ClassFile.FieldType.boolean)) ∈ lw_g := List.mem_filter.mpr ⟨List.mem_append_right _ (List.mem_append_right _ (List.mem_append_left _ (List.mem_of_getElem? (i := 152) rfl))), rfl⟩
theorem wd_393 : (Jvm.Cond.methodLink "OrderMoneyLaw" (86 : Nat) ({ cls := "OrderMoney", name := "about", desc := "(JI)J" } : Jvm.MethodName)) ∈ lw_g := List.mem_filter.mpr ⟨List.mem_append_right _ (List.mem_append_right _ (List.mem_append_left _ (List.mem_of_getElem? (i := 153) rfl))), rfl⟩
theorem wd_394 : (Jvm.Cond.instanceMethod ({ cls := "OrderMoney", name := "about", desc := "(JI)J" } : Jvm.MethodName)) ∈ lw_g := List.mem_filter.mpr ⟨List.mem_append_right _ (List.mem_append_right _ (List.mem_append_left _ (List.mem_of_getElem? (i := 154) rfl))), rfl⟩
theorem wd_395 : (Jvm.Cond.selects "OrderMoney" ({ cls := "OrderMoney", name := "about", desc := "(JI)J" } : Jvm.MethodName) ({ cls := "OrderMoney", name := "about", desc := "(JI)J" } : Jvm.MethodName)) ∈ lw_g := List.mem_filter.mpr ⟨List.mem_append_right _ (List.mem_append_right _ (List.mem_append_left _ (List.mem_of_getElem? (i := 155) rfl))), rfl⟩
theorem wd_396 : (Jvm.Cond.code ({ cls := "OrderMoney", name := "about", desc := "(JI)J" } : Jvm.MethodName) prog_1_method_17_code (5 : Nat) (Option.some Jvm.ClassFile.FieldType.long)) ∈ lw_g := List.mem_filter.mpr ⟨List.mem_append_right _ (List.mem_append_right _ (List.mem_append_left _ (List.mem_of_getElem? (i := 156) rfl))), rfl⟩
theorem wd_397 : (Jvm.Cond.methodLink "OrderMoney" (204 : Nat) ({ cls := "OrderMoney", name := "placeOf", desc := "(LOrderMoney$Office;)J" } : Jvm.MethodName)) ∈ lw_g := List.mem_filter.mpr ⟨List.mem_append_right _ (List.mem_append_right _ (List.mem_append_left _ (List.mem_of_getElem? (i := 157) rfl))), rfl⟩
theorem wd_398 : (Jvm.Cond.static ({ cls := "OrderMoney", name := "placeOf", desc := "(LOrderMoney$Office;)J" } : Jvm.MethodName)) ∈ lw_g := List.mem_filter.mpr ⟨List.mem_append_right _ (List.mem_append_right _ (List.mem_append_left _ (List.mem_of_getElem? (i := 158) rfl))), rfl⟩
theorem wd_399 : (Jvm.Cond.code ({ cls := "OrderMoney", name := "placeOf", desc := "(LOrderMoney$Office;)J" } : Jvm.MethodName) prog_1_method_22_code (1 : Nat) (Option.some Jvm.ClassFile.FieldType.long)) ∈ lw_g := List.mem_filter.mpr ⟨List.mem_append_right _ (List.mem_append_right _ (List.mem_append_left _ (List.mem_of_getElem? (i := 159) rfl))), rfl⟩
theorem wd_400 : (Jvm.Cond.constantLong "OrderMoney" (212 : Nat) (-102 : Int64)) ∈ lw_g := List.mem_filter.mpr ⟨List.mem_append_right _ (List.mem_append_right _ (List.mem_append_left _ (List.mem_of_getElem? (i := 160) rfl))), rfl⟩
theorem wd_401 : (Jvm.Cond.methodLink "OrderMoneyLaw" (91 : Nat) ({ cls := "OrderMoney", name := "till", desc := "(I)J" } : Jvm.MethodName)) ∈ lw_g := List.mem_filter.mpr ⟨List.mem_append_right _ (List.mem_append_right _ (List.mem_append_left _ (List.mem_of_getElem? (i := 161) rfl))), rfl⟩
theorem wd_402 : (Jvm.Cond.instanceMethod ({ cls := "OrderMoney", name := "till", desc := "(I)J" } : Jvm.MethodName)) ∈ lw_g := List.mem_filter.mpr ⟨List.mem_append_right _ (List.mem_append_right _ (List.mem_append_left _ (List.mem_of_getElem? (i := 162) rfl))), rfl⟩
theorem wd_403 : (Jvm.Cond.selects "OrderMoney" ({ cls := "OrderMoney", name := "till", desc := "(I)J" } : Jvm.MethodName) ({ cls := "OrderMoney", name := "till", desc := "(I)J" } : Jvm.MethodName)) ∈ lw_g := List.mem_filter.mpr ⟨List.mem_append_right _ (List.mem_append_right _ (List.mem_append_left _ (List.mem_of_getElem? (i := 163) rfl))), rfl⟩
theorem wd_404 : (Jvm.Cond.code ({ cls := "OrderMoney", name := "till", desc := "(I)J" } : Jvm.MethodName) prog_1_method_18_code (3 : Nat) (Option.some Jvm.ClassFile.FieldType.long)) ∈ lw_g := List.mem_filter.mpr ⟨List.mem_append_right _ (List.mem_append_right _ (List.mem_append_left _ (List.mem_of_getElem? (i := 164) rfl))), rfl⟩
theorem wd_405 : (Jvm.Cond.methodLink "OrderMoneyLaw" (96 : Nat) ({ cls := "OrderMoney", name := "all", desc := "(I)J" } : Jvm.MethodName)) ∈ lw_g := List.mem_filter.mpr ⟨List.mem_append_right _ (List.mem_append_right _ (List.mem_append_left _ (List.mem_of_getElem? (i := 165) rfl))), rfl⟩
theorem wd_406 : (Jvm.Cond.instanceMethod ({ cls := "OrderMoney", name := "all", desc := "(I)J" } : Jvm.MethodName)) ∈ lw_g := List.mem_filter.mpr ⟨List.mem_append_right _ (List.mem_append_right _ (List.mem_append_left _ (List.mem_of_getElem? (i := 166) rfl))), rfl⟩
theorem wd_407 : (Jvm.Cond.selects "OrderMoney" ({ cls := "OrderMoney", name := "all", desc := "(I)J" } : Jvm.MethodName) ({ cls := "OrderMoney", name := "all", desc := "(I)J" } : Jvm.MethodName)) ∈ lw_g := List.mem_filter.mpr ⟨List.mem_append_right _ (List.mem_append_right _ (List.mem_append_left _ (List.mem_of_getElem? (i := 167) rfl))), rfl⟩
theorem wd_408 : (Jvm.Cond.code ({ cls := "OrderMoney", name := "all", desc := "(I)J" } : Jvm.MethodName) prog_1_method_19_code (2 : Nat) (Option.some Jvm.ClassFile.FieldType.long)) ∈ lw_g := List.mem_filter.mpr ⟨List.mem_append_right _ (List.mem_append_right _ (List.mem_append_left _ (List.mem_of_getElem? (i := 168) rfl))), rfl⟩
theorem wd_409 : (Jvm.Cond.classLink "OrderMoneyLaw" (10 : Nat) "OrderMoneyModel") ∈ lw_g := List.mem_filter.mpr ⟨List.mem_append_right _ (List.mem_append_right _ (List.mem_append_left _ (List.mem_of_getElem? (i := 169) rfl))), rfl⟩
theorem wd_410 : (Jvm.Cond.instantiable "OrderMoneyModel" (32 : Nat)) ∈ lw_g := List.mem_filter.mpr ⟨List.mem_append_right _ (List.mem_append_right _ (List.mem_append_left _ (List.mem_of_getElem? (i := 170) rfl))), rfl⟩
theorem wd_411 : (Jvm.Cond.methodLink "OrderMoneyLaw" (12 : Nat) ({ cls := "OrderMoneyModel", name := "<init>", desc := "()V" } : Jvm.MethodName)) ∈ lw_g := List.mem_filter.mpr ⟨List.mem_append_right _ (List.mem_append_right _ (List.mem_append_left _ (List.mem_of_getElem? (i := 171) rfl))), rfl⟩
theorem wd_412 : (Jvm.Cond.instanceMethod ({ cls := "OrderMoneyModel", name := "<init>", desc := "()V" } : Jvm.MethodName)) ∈ lw_g := List.mem_filter.mpr ⟨List.mem_append_right _ (List.mem_append_right _ (List.mem_append_left _ (List.mem_of_getElem? (i := 172) rfl))), rfl⟩
theorem wd_413 : (Jvm.Cond.code ({ cls := "OrderMoneyModel", name := "<init>", desc := "()V" } : Jvm.MethodName) prog_8_method_1_code (1 : Nat) (Option.none : Option Jvm.ClassFile.FieldType)) ∈ lw_g := List.mem_filter.mpr ⟨List.mem_append_right _ (List.mem_append_right _ (List.mem_append_left _ (List.mem_of_getElem? (i := 173) rfl))), rfl⟩
theorem wd_414 : (Jvm.Cond.methodLink "OrderMoneyModel" (1 : Nat) ({ cls := "java/lang/Object", name := "<init>", desc := "()V" } : Jvm.MethodName)) ∈ lw_g := List.mem_filter.mpr ⟨List.mem_append_right _ (List.mem_append_right _ (List.mem_append_left _ (List.mem_of_getElem? (i := 174) rfl))), rfl⟩
theorem wd_415 : (Jvm.Cond.constantLong "OrderMoneyModel" (42 : Nat) (1000 : Int64)) ∈ lw_g := List.mem_filter.mpr ⟨List.mem_append_right _ (List.mem_append_right _ (List.mem_append_left _ (List.mem_of_getElem? (i := 175) rfl))), rfl⟩
theorem wd_416 : (Jvm.Cond.constantLong "OrderMoneyModel" (50 : Nat) (-1 : Int64)) ∈ lw_g := List.mem_filter.mpr ⟨List.mem_append_right _ (List.mem_append_right _ (List.mem_append_left _ (List.mem_of_getElem? (i := 176) rfl))), rfl⟩
theorem wd_417 : (Jvm.Cond.fieldLink "OrderMoneyModel" (106 : Nat) "OrderMoneyModel" "orders" "I") ∈ lw_g := List.mem_filter.mpr ⟨List.mem_append_right _ (List.mem_append_right _ (List.mem_append_left _ (List.mem_of_getElem? (i := 177) rfl))), rfl⟩
theorem wd_418 : (Jvm.Cond.fieldLink "OrderMoneyModel" (7 : Nat) "OrderMoneyModel" "states" "[I") ∈ lw_g := List.mem_filter.mpr ⟨List.mem_append_right _ (List.mem_append_right _ (List.mem_append_left _ (List.mem_of_getElem? (i := 178) rfl))), rfl⟩
theorem wd_419 : (Jvm.Cond.fieldLink "OrderMoneyModel" (13 : Nat) "OrderMoneyModel" "cents" "[J") ∈ lw_g := List.mem_filter.mpr ⟨List.mem_append_right _ (List.mem_append_right _ (List.mem_append_left _ (List.mem_of_getElem? (i := 179) rfl))), rfl⟩
theorem wd_420 : (Jvm.Cond.fieldLink "OrderMoneyModel" (17 : Nat) "OrderMoneyModel" "untils" "[J") ∈ lw_g := List.mem_filter.mpr ⟨List.mem_append_right _ (List.mem_append_right _ (List.mem_append_left _ (List.mem_of_getElem? (i := 180) rfl))), rfl⟩
theorem wd_421 : (Jvm.Cond.fieldLink "OrderMoneyModel" (20 : Nat) "OrderMoneyModel" "currencies" "[I") ∈ lw_g := List.mem_filter.mpr ⟨List.mem_append_right _ (List.mem_append_right _ (List.mem_append_left _ (List.mem_of_getElem? (i := 181) rfl))), rfl⟩
theorem wd_422 : (Jvm.Cond.fieldLink "OrderMoneyModel" (23 : Nat) "OrderMoneyModel" "proofs" "[I") ∈ lw_g := List.mem_filter.mpr ⟨List.mem_append_right _ (List.mem_append_right _ (List.mem_append_left _ (List.mem_of_getElem? (i := 182) rfl))), rfl⟩
theorem wd_423 : (Jvm.Cond.fieldLink "OrderMoneyModel" (26 : Nat) "OrderMoneyModel" "inAt" "[I") ∈ lw_g := List.mem_filter.mpr ⟨List.mem_append_right _ (List.mem_append_right _ (List.mem_append_left _ (List.mem_of_getElem? (i := 183) rfl))), rfl⟩
theorem wd_424 : (Jvm.Cond.fieldLink "OrderMoneyModel" (29 : Nat) "OrderMoneyModel" "outAt" "[I") ∈ lw_g := List.mem_filter.mpr ⟨List.mem_append_right _ (List.mem_append_right _ (List.mem_append_left _ (List.mem_of_getElem? (i := 184) rfl))), rfl⟩
theorem wd_425 : (Jvm.Cond.fieldLink "OrderMoneyModel" (32 : Nat) "OrderMoneyModel" "lists" "[I") ∈ lw_g := List.mem_filter.mpr ⟨List.mem_append_right _ (List.mem_append_right _ (List.mem_append_left _ (List.mem_of_getElem? (i := 185) rfl))), rfl⟩
theorem wd_426 : (Jvm.Cond.fieldLink "OrderMoneyModel" (35 : Nat) "OrderMoneyModel" "barredAt" "[J") ∈ lw_g := List.mem_filter.mpr ⟨List.mem_append_right _ (List.mem_append_right _ (List.mem_append_left _ (List.mem_of_getElem? (i := 186) rfl))), rfl⟩
theorem wd_427 : (Jvm.Cond.fieldLink "OrderMoneyModel" (38 : Nat) "OrderMoneyModel" "wasBarred" "[Z") ∈ lw_g := List.mem_filter.mpr ⟨List.mem_append_right _ (List.mem_append_right _ (List.mem_append_left _ (List.mem_of_getElem? (i := 187) rfl))), rfl⟩
theorem wd_428 : (Jvm.Cond.fieldLink "OrderMoneyModel" (44 : Nat) "OrderMoneyModel" "rates" "[J") ∈ lw_g := List.mem_filter.mpr ⟨List.mem_append_right _ (List.mem_append_right _ (List.mem_append_left _ (List.mem_of_getElem? (i := 188) rfl))), rfl⟩
theorem wd_429 : (Jvm.Cond.fieldLink "OrderMoneyModel" (47 : Nat) "OrderMoneyModel" "tills" "[J") ∈ lw_g := List.mem_filter.mpr ⟨List.mem_append_right _ (List.mem_append_right _ (List.mem_append_left _ (List.mem_of_getElem? (i := 189) rfl))), rfl⟩
theorem wd_430 : (Jvm.Cond.fieldLink "OrderMoneyModel" (52 : Nat) "OrderMoneyModel" "limits" "[J") ∈ lw_g := List.mem_filter.mpr ⟨List.mem_append_right _ (List.mem_append_right _ (List.mem_append_left _ (List.mem_of_getElem? (i := 190) rfl))), rfl⟩
theorem wd_431 : (Jvm.Cond.fieldLink "OrderMoneyModel" (55 : Nat) "OrderMoneyModel" "off" "[Z") ∈ lw_g := List.mem_filter.mpr ⟨List.mem_append_right _ (List.mem_append_right _ (List.mem_append_left _ (List.mem_of_getElem? (i := 191) rfl))), rfl⟩
theorem wd_432 : (Jvm.Cond.fieldLink "OrderMoneyModel" (58 : Nat) "OrderMoneyModel" "failing" "[I") ∈ lw_g := List.mem_filter.mpr ⟨List.mem_append_right _ (List.mem_append_right _ (List.mem_append_left _ (List.mem_of_getElem? (i := 192) rfl))), rfl⟩
theorem wd_433 : (Jvm.Cond.fieldLink "OrderMoneyModel" (61 : Nat) "OrderMoneyModel" "days" "[J") ∈ lw_g := List.mem_filter.mpr ⟨List.mem_append_right _ (List.mem_append_right _ (List.mem_append_left _ (List.mem_of_getElem? (i := 193) rfl))), rfl⟩
theorem wd_434 : (Jvm.Cond.fieldLink "OrderMoneyModel" (64 : Nat) "OrderMoneyModel" "paid" "[J") ∈ lw_g := List.mem_filter.mpr ⟨List.mem_append_right _ (List.mem_append_right _ (List.mem_append_left _ (List.mem_of_getElem? (i := 194) rfl))), rfl⟩
theorem wd_435 : (Jvm.Cond.fieldLink "OrderMoneyModel" (67 : Nat) "OrderMoneyModel" "known" "[I") ∈ lw_g := List.mem_filter.mpr ⟨List.mem_append_right _ (List.mem_append_right _ (List.mem_append_left _ (List.mem_of_getElem? (i := 195) rfl))), rfl⟩
theorem wd_436 : (Jvm.Cond.fieldLink "OrderMoneyModel" (70 : Nat) "OrderMoneyModel" "knownProofs" "[I") ∈ lw_g := List.mem_filter.mpr ⟨List.mem_append_right _ (List.mem_append_right _ (List.mem_append_left _ (List.mem_of_getElem? (i := 196) rfl))), rfl⟩
theorem wd_437 : (Jvm.Cond.fieldLink "OrderMoneyModel" (142 : Nat) "OrderMoneyModel" "asked" "I") ∈ lw_g := List.mem_filter.mpr ⟨List.mem_append_right _ (List.mem_append_right _ (List.mem_append_left _ (List.mem_of_getElem? (i := 197) rfl))), rfl⟩
theorem wd_438 : (Jvm.Cond.fieldLink "OrderMoneyModel" (145 : Nat) "OrderMoneyModel" "served" "I") ∈ lw_g := List.mem_filter.mpr ⟨List.mem_append_right _ (List.mem_append_right _ (List.mem_append_left _ (List.mem_of_getElem? (i := 198) rfl))), rfl⟩
theorem wd_439 : (Jvm.Cond.fieldLink "OrderMoneyModel" (73 : Nat) "OrderMoneyModel" "askOffice" "[I") ∈ lw_g := List.mem_filter.mpr ⟨List.mem_append_right _ (List.mem_append_right _ (List.mem_append_left _ (List.mem_of_getElem? (i := 199) rfl))), rfl⟩
theorem wd_440 : (Jvm.Cond.fieldLink "OrderMoneyModel" (76 : Nat) "OrderMoneyModel" "askNumber" "[J") ∈ lw_g := List.mem_filter.mpr ⟨List.mem_append_right _ (List.mem_append_right _ (List.mem_append_left _ (List.mem_of_getElem? (i := 200) rfl))), rfl⟩
theorem wd_441 : (Jvm.Cond.fieldLink "OrderMoneyModel" (79 : Nat) "OrderMoneyModel" "askProof" "[I") ∈ lw_g := List.mem_filter.mpr ⟨List.mem_append_right _ (List.mem_append_right _ (List.mem_append_left _ (List.mem_of_getElem? (i := 201) rfl))), rfl⟩
theorem wd_442 : (Jvm.Cond.fieldLink "OrderMoneyModel" (82 : Nat) "OrderMoneyModel" "askTime" "[J") ∈ lw_g := List.mem_filter.mpr ⟨List.mem_append_right _ (List.mem_append_right _ (List.mem_append_left _ (List.mem_of_getElem? (i := 202) rfl))), rfl⟩
theorem wd_443 : (Jvm.Cond.fieldLink "OrderMoneyModel" (85 : Nat) "OrderMoneyModel" "askAnswer" "[I") ∈ lw_g := List.mem_filter.mpr ⟨List.mem_append_right _ (List.mem_append_right _ (List.mem_append_left _ (List.mem_of_getElem? (i := 203) rfl))), rfl⟩
theorem wd_444 : (Jvm.Cond.fieldLink "OrderMoneyModel" (167 : Nat) "OrderMoneyModel" "waiting" "I") ∈ lw_g := List.mem_filter.mpr ⟨List.mem_append_right _ (List.mem_append_right _ (List.mem_append_left _ (List.mem_of_getElem? (i := 204) rfl))), rfl⟩
theorem wd_445 : (Jvm.Cond.fieldLink "OrderMoneyModel" (88 : Nat) "OrderMoneyModel" "sumOffice" "[I") ∈ lw_g := List.mem_filter.mpr ⟨List.mem_append_right _ (List.mem_append_right _ (List.mem_append_left _ (List.mem_of_getElem? (i := 205) rfl))), rfl⟩
theorem wd_446 : (Jvm.Cond.fieldLink "OrderMoneyModel" (91 : Nat) "OrderMoneyModel" "sumCents" "[J") ∈ lw_g := List.mem_filter.mpr ⟨List.mem_append_right _ (List.mem_append_right _ (List.mem_append_left _ (List.mem_of_getElem? (i := 206) rfl))), rfl⟩
theorem wd_447 : (Jvm.Cond.fieldLink "OrderMoneyModel" (94 : Nat) "OrderMoneyModel" "sumDay" "[I") ∈ lw_g := List.mem_filter.mpr ⟨List.mem_append_right _ (List.mem_append_right _ (List.mem_append_left _ (List.mem_of_getElem? (i := 207) rfl))), rfl⟩
theorem wd_448 : (Jvm.Cond.fieldLink "OrderMoneyModel" (97 : Nat) "OrderMoneyModel" "totals" "[J") ∈ lw_g := List.mem_filter.mpr ⟨List.mem_append_right _ (List.mem_append_right _ (List.mem_append_left _ (List.mem_of_getElem? (i := 208) rfl))), rfl⟩
theorem wd_514 : (Jvm.Cond.arrayClass Jvm.ClassFile.FieldType.int) ∈ lw_g := List.mem_filter.mpr ⟨List.mem_append_right _ (List.mem_append_right _ (List.mem_append_right _ (List.mem_of_getElem? (i := 34) rfl))), rfl⟩
theorem wd_515 : (Jvm.Cond.arrayClass Jvm.ClassFile.FieldType.boolean) ∈ lw_g := List.mem_filter.mpr ⟨List.mem_append_right _ (List.mem_append_right _ (List.mem_append_right _ (List.mem_of_getElem? (i := 35) rfl))), rfl⟩
theorem wd_516 : (Jvm.Cond.methodLink "OrderMoneyLaw" (19 : Nat) ({ cls := "OrderMoneyModel", name := "order", desc := "(IJJII)I" } : Jvm.MethodName)) ∈ lw_g := List.mem_filter.mpr ⟨List.mem_append_right _ (List.mem_append_right _ (List.mem_append_right _ (List.mem_of_getElem? (i := 36) rfl))), rfl⟩
theorem wd_517 : (Jvm.Cond.instanceMethod ({ cls := "OrderMoneyModel", name := "order", desc := "(IJJII)I" } : Jvm.MethodName)) ∈ lw_g := List.mem_filter.mpr ⟨List.mem_append_right _ (List.mem_append_right _ (List.mem_append_right _ (List.mem_of_getElem? (i := 37) rfl))), rfl⟩
theorem wd_518 : (Jvm.Cond.selects "OrderMoneyModel" ({ cls := "OrderMoneyModel", name := "order", desc := "(IJJII)I" } : Jvm.MethodName) ({ cls := "OrderMoneyModel", name := "order", desc := "(IJJII)I" } : Jvm.MethodName)) ∈ lw_g := List.mem_filter.mpr ⟨List.mem_append_right _ (List.mem_append_right _ (List.mem_append_right _ (List.mem_of_getElem? (i := 38) rfl))), rfl⟩
theorem wd_519 : (Jvm.Cond.code ({ cls := "OrderMoneyModel", name := "order", desc := "(IJJII)I" } : Jvm.MethodName) prog_8_method_8_code (8 : Nat) (Option.some Jvm.ClassFile.FieldType.int)) ∈ lw_g := List.mem_filter.mpr ⟨List.mem_append_right _ (List.mem_append_right _ (List.mem_append_right _ (List.mem_of_getElem? (i := 39) rfl))), rfl⟩
theorem wd_520 : (Jvm.Cond.methodLink "OrderMoneyModel" (114 : Nat) ({ cls := "OrderMoneyModel", name := "isOffice", desc := "(I)Z" } : Jvm.MethodName)) ∈ lw_g := List.mem_filter.mpr ⟨List.mem_append_right _ (List.mem_append_right _ (List.mem_append_right _ (List.mem_of_getElem? (i := 40) rfl))), rfl⟩
theorem wd_521 : (Jvm.Cond.static ({ cls := "OrderMoneyModel", name := "isOffice", desc := "(I)Z" } : Jvm.MethodName)) ∈ lw_g := List.mem_filter.mpr ⟨List.mem_append_right _ (List.mem_append_right _ (List.mem_append_right _ (List.mem_of_getElem? (i := 41) rfl))), rfl⟩
theorem wd_522 : (Jvm.Cond.code ({ cls := "OrderMoneyModel", name := "isOffice", desc := "(I)Z" } : Jvm.MethodName) prog_8_method_4_code (1 : Nat) (Option.some Jvm.ClassFile.FieldType.boolean)) ∈ lw_g := List.mem_filter.mpr ⟨List.mem_append_right _ (List.mem_append_right _ (List.mem_append_right _ (List.mem_of_getElem? (i := 42) rfl))), rfl⟩
theorem wd_523 : (Jvm.Cond.constantLong "OrderMoneyModel" (100 : Nat) (7 : Int64)) ∈ lw_g := List.mem_filter.mpr ⟨List.mem_append_right _ (List.mem_append_right _ (List.mem_append_right _ (List.mem_of_getElem? (i := 43) rfl))), rfl⟩
theorem wd_524 : (Jvm.Cond.methodLink "OrderMoneyModel" (102 : Nat) ({ cls := "OrderMoneyModel", name := "in", desc := "(JJJ)Z" } : Jvm.MethodName)) ∈ lw_g := List.mem_filter.mpr ⟨List.mem_append_right _ (List.mem_append_right _ (List.mem_append_right _ (List.mem_of_getElem? (i := 44) rfl))), rfl⟩
theorem wd_525 : (Jvm.Cond.static ({ cls := "OrderMoneyModel", name := "in", desc := "(JJJ)Z" } : Jvm.MethodName)) ∈ lw_g := List.mem_filter.mpr ⟨List.mem_append_right _ (List.mem_append_right _ (List.mem_append_right _ (List.mem_of_getElem? (i := 45) rfl))), rfl⟩
theorem wd_526 : (Jvm.Cond.code ({ cls := "OrderMoneyModel", name := "in", desc := "(JJJ)Z" } : Jvm.MethodName) prog_8_method_3_code (6 : Nat) (Option.some Jvm.ClassFile.FieldType.boolean)) ∈ lw_g := List.mem_filter.mpr ⟨List.mem_append_right _ (List.mem_append_right _ (List.mem_append_right _ (List.mem_of_getElem? (i := 46) rfl))), rfl⟩
theorem wd_527 : (Jvm.Cond.constantLong "OrderMoneyModel" (118 : Nat) (500000 : Int64)) ∈ lw_g := List.mem_filter.mpr ⟨List.mem_append_right _ (List.mem_append_right _ (List.mem_append_right _ (List.mem_of_getElem? (i := 47) rfl))), rfl⟩
theorem wd_528 : (Jvm.Cond.constantLong "OrderMoneyModel" (120 : Nat) (3 : Int64)) ∈ lw_g := List.mem_filter.mpr ⟨List.mem_append_right _ (List.mem_append_right _ (List.mem_append_right _ (List.mem_of_getElem? (i := 48) rfl))), rfl⟩
theorem wd_529 : (Jvm.Cond.methodLink "OrderMoneyModel" (122 : Nat) ({ cls := "OrderMoneyModel", name := "add", desc := "(IJJII)I" } : Jvm.MethodName)) ∈ lw_g := List.mem_filter.mpr ⟨List.mem_append_right _ (List.mem_append_right _ (List.mem_append_right _ (List.mem_of_getElem? (i := 49) rfl))), rfl⟩
theorem wd_531 : (Jvm.Cond.instanceMethod ({ cls := "OrderMoneyModel", name := "add", desc := "(IJJII)I" } : Jvm.MethodName)) ∈ lw_g := List.mem_filter.mpr ⟨List.mem_append_right _ (List.mem_append_right _ (List.mem_append_right _ (List.mem_of_getElem? (i := 51) rfl))), rfl⟩
theorem wd_532 : (Jvm.Cond.code ({ cls := "OrderMoneyModel", name := "add", desc := "(IJJII)I" } : Jvm.MethodName) prog_8_method_7_code (8 : Nat) (Option.some Jvm.ClassFile.FieldType.int)) ∈ lw_g := List.mem_filter.mpr ⟨List.mem_append_right _ (List.mem_append_right _ (List.mem_append_right _ (List.mem_of_getElem? (i := 52) rfl))), rfl⟩
theorem wd_533 : (Jvm.Cond.methodLink "OrderMoneyModel" (110 : Nat) ({ cls := "OrderMoneyModel", name := "numberOf", desc := "(I)I" } : Jvm.MethodName)) ∈ lw_g := List.mem_filter.mpr ⟨List.mem_append_right _ (List.mem_append_right _ (List.mem_append_right _ (List.mem_of_getElem? (i := 53) rfl))), rfl⟩
theorem wd_534 : (Jvm.Cond.static ({ cls := "OrderMoneyModel", name := "numberOf", desc := "(I)I" } : Jvm.MethodName)) ∈ lw_g := List.mem_filter.mpr ⟨List.mem_append_right _ (List.mem_append_right _ (List.mem_append_right _ (List.mem_of_getElem? (i := 54) rfl))), rfl⟩
theorem wd_535 : (Jvm.Cond.code ({ cls := "OrderMoneyModel", name := "numberOf", desc := "(I)I" } : Jvm.MethodName) prog_8_method_5_code (4 : Nat) (Option.some Jvm.ClassFile.FieldType.int)) ∈ lw_g := List.mem_filter.mpr ⟨List.mem_append_right _ (List.mem_append_right _ (List.mem_append_right _ (List.mem_of_getElem? (i := 55) rfl))), rfl⟩
theorem wd_536 : (Jvm.Cond.methodLink "OrderMoneyLaw" (24 : Nat) ({ cls := "OrderMoneyModel", name := "pay", desc := "(IJIJ)I" } : Jvm.MethodName)) ∈ lw_g := List.mem_filter.mpr ⟨List.mem_append_right _ (List.mem_append_right _ (List.mem_append_right _ (List.mem_of_getElem? (i := 56) rfl))), rfl⟩
theorem wd_537 : (Jvm.Cond.instanceMethod ({ cls := "OrderMoneyModel", name := "pay", desc := "(IJIJ)I" } : Jvm.MethodName)) ∈ lw_g := List.mem_filter.mpr ⟨List.mem_append_right _ (List.mem_append_right _ (List.mem_append_right _ (List.mem_of_getElem? (i := 57) rfl))), rfl⟩
theorem wd_538 : (Jvm.Cond.selects "OrderMoneyModel" ({ cls := "OrderMoneyModel", name := "pay", desc := "(IJIJ)I" } : Jvm.MethodName) ({ cls := "OrderMoneyModel", name := "pay", desc := "(IJIJ)I" } : Jvm.MethodName)) ∈ lw_g := List.mem_filter.mpr ⟨List.mem_append_right _ (List.mem_append_right _ (List.mem_append_right _ (List.mem_of_getElem? (i := 58) rfl))), rfl⟩
theorem wd_539 : (Jvm.Cond.code ({ cls := "OrderMoneyModel", name := "pay", desc := "(IJIJ)I" } : Jvm.MethodName) prog_8_method_11_code (17 : Nat) (Option.some Jvm.ClassFile.FieldType.int)) ∈ lw_g := List.mem_filter.mpr ⟨List.mem_append_right _ (List.mem_append_right _ (List.mem_append_right _ (List.mem_of_getElem? (i := 59) rfl))), rfl⟩
theorem wd_540 : (Jvm.Cond.methodLink "OrderMoneyModel" (126 : Nat) ({ cls := "OrderMoneyModel", name := "find", desc := "(J)I" } : Jvm.MethodName)) ∈ lw_g := List.mem_filter.mpr ⟨List.mem_append_right _ (List.mem_append_right _ (List.mem_append_right _ (List.mem_of_getElem? (i := 60) rfl))), rfl⟩
theorem wd_542 : (Jvm.Cond.instanceMethod ({ cls := "OrderMoneyModel", name := "find", desc := "(J)I" } : Jvm.MethodName)) ∈ lw_g := List.mem_filter.mpr ⟨List.mem_append_right _ (List.mem_append_right _ (List.mem_append_right _ (List.mem_of_getElem? (i := 62) rfl))), rfl⟩
theorem wd_543 : (Jvm.Cond.code ({ cls := "OrderMoneyModel", name := "find", desc := "(J)I" } : Jvm.MethodName) prog_8_method_6_code (4 : Nat) (Option.some Jvm.ClassFile.FieldType.int)) ∈ lw_g := List.mem_filter.mpr ⟨List.mem_append_right _ (List.mem_append_right _ (List.mem_append_right _ (List.mem_of_getElem? (i := 63) rfl))), rfl⟩
theorem wd_544 : (Jvm.Cond.methodLink "OrderMoneyModel" (130 : Nat) ({ cls := "OrderMoneyModel", name := "failsNow", desc := "(II)Z" } : Jvm.MethodName)) ∈ lw_g := List.mem_filter.mpr ⟨List.mem_append_right _ (List.mem_append_right _ (List.mem_append_right _ (List.mem_of_getElem? (i := 64) rfl))), rfl⟩
theorem wd_546 : (Jvm.Cond.instanceMethod ({ cls := "OrderMoneyModel", name := "failsNow", desc := "(II)Z" } : Jvm.MethodName)) ∈ lw_g := List.mem_filter.mpr ⟨List.mem_append_right _ (List.mem_append_right _ (List.mem_append_right _ (List.mem_of_getElem? (i := 66) rfl))), rfl⟩
theorem wd_547 : (Jvm.Cond.code ({ cls := "OrderMoneyModel", name := "failsNow", desc := "(II)Z" } : Jvm.MethodName) prog_8_method_10_code (4 : Nat) (Option.some Jvm.ClassFile.FieldType.boolean)) ∈ lw_g := List.mem_filter.mpr ⟨List.mem_append_right _ (List.mem_append_right _ (List.mem_append_right _ (List.mem_of_getElem? (i := 67) rfl))), rfl⟩
theorem wd_548 : (Jvm.Cond.constantLong "OrderMoneyModel" (134 : Nat) (86400 : Int64)) ∈ lw_g := List.mem_filter.mpr ⟨List.mem_append_right _ (List.mem_append_right _ (List.mem_append_right _ (List.mem_of_getElem? (i := 68) rfl))), rfl⟩
theorem wd_549 : (Jvm.Cond.methodLink "OrderMoneyModel" (136 : Nat) ({ cls := "OrderMoneyModel", name := "sumOf", desc := "(I)J" } : Jvm.MethodName)) ∈ lw_g := List.mem_filter.mpr ⟨List.mem_append_right _ (List.mem_append_right _ (List.mem_append_right _ (List.mem_of_getElem? (i := 69) rfl))), rfl⟩
theorem wd_551 : (Jvm.Cond.instanceMethod ({ cls := "OrderMoneyModel", name := "sumOf", desc := "(I)J" } : Jvm.MethodName)) ∈ lw_g := List.mem_filter.mpr ⟨List.mem_append_right _ (List.mem_append_right _ (List.mem_append_right _ (List.mem_of_getElem? (i := 71) rfl))), rfl⟩
theorem wd_552 : (Jvm.Cond.code ({ cls := "OrderMoneyModel", name := "sumOf", desc := "(I)J" } : Jvm.MethodName) prog_8_method_9_code (2 : Nat) (Option.some Jvm.ClassFile.FieldType.long)) ∈ lw_g := List.mem_filter.mpr ⟨List.mem_append_right _ (List.mem_append_right _ (List.mem_append_right _ (List.mem_of_getElem? (i := 72) rfl))), rfl⟩
theorem wd_553 : (Jvm.Cond.methodLink "OrderMoneyLaw" (29 : Nat) ({ cls := "OrderMoneyModel", name := "fails", desc := "(II)I" } : Jvm.MethodName)) ∈ lw_g := List.mem_filter.mpr ⟨List.mem_append_right _ (List.mem_append_right _ (List.mem_append_right _ (List.mem_of_getElem? (i := 73) rfl))), rfl⟩
theorem wd_554 : (Jvm.Cond.instanceMethod ({ cls := "OrderMoneyModel", name := "fails", desc := "(II)I" } : Jvm.MethodName)) ∈ lw_g := List.mem_filter.mpr ⟨List.mem_append_right _ (List.mem_append_right _ (List.mem_append_right _ (List.mem_of_getElem? (i := 74) rfl))), rfl⟩
theorem wd_555 : (Jvm.Cond.selects "OrderMoneyModel" ({ cls := "OrderMoneyModel", name := "fails", desc := "(II)I" } : Jvm.MethodName) ({ cls := "OrderMoneyModel", name := "fails", desc := "(II)I" } : Jvm.MethodName)) ∈ lw_g := List.mem_filter.mpr ⟨List.mem_append_right _ (List.mem_append_right _ (List.mem_append_right _ (List.mem_of_getElem? (i := 75) rfl))), rfl⟩
theorem wd_556 : (Jvm.Cond.code ({ cls := "OrderMoneyModel", name := "fails", desc := "(II)I" } : Jvm.MethodName) prog_8_method_12_code (4 : Nat) (Option.some Jvm.ClassFile.FieldType.int)) ∈ lw_g := List.mem_filter.mpr ⟨List.mem_append_right _ (List.mem_append_right _ (List.mem_append_right _ (List.mem_of_getElem? (i := 76) rfl))), rfl⟩
theorem wd_557 : (Jvm.Cond.constantLong "OrderMoneyModel" (140 : Nat) (5 : Int64)) ∈ lw_g := List.mem_filter.mpr ⟨List.mem_append_right _ (List.mem_append_right _ (List.mem_append_right _ (List.mem_of_getElem? (i := 77) rfl))), rfl⟩
theorem wd_558 : (Jvm.Cond.methodLink "OrderMoneyLaw" (33 : Nat) ({ cls := "OrderMoneyModel", name := "ask", desc := "(IJIJ)I" } : Jvm.MethodName)) ∈ lw_g := List.mem_filter.mpr ⟨List.mem_append_right _ (List.mem_append_right _ (List.mem_append_right _ (List.mem_of_getElem? (i := 78) rfl))), rfl⟩
theorem wd_559 : (Jvm.Cond.instanceMethod ({ cls := "OrderMoneyModel", name := "ask", desc := "(IJIJ)I" } : Jvm.MethodName)) ∈ lw_g := List.mem_filter.mpr ⟨List.mem_append_right _ (List.mem_append_right _ (List.mem_append_right _ (List.mem_of_getElem? (i := 79) rfl))), rfl⟩
theorem wd_560 : (Jvm.Cond.selects "OrderMoneyModel" ({ cls := "OrderMoneyModel", name := "ask", desc := "(IJIJ)I" } : Jvm.MethodName) ({ cls := "OrderMoneyModel", name := "ask", desc := "(IJIJ)I" } : Jvm.MethodName)) ∈ lw_g := List.mem_filter.mpr ⟨List.mem_append_right _ (List.mem_append_right _ (List.mem_append_right _ (List.mem_of_getElem? (i := 80) rfl))), rfl⟩
theorem wd_561 : (Jvm.Cond.code ({ cls := "OrderMoneyModel", name := "ask", desc := "(IJIJ)I" } : Jvm.MethodName) prog_8_method_13_code (7 : Nat) (Option.some Jvm.ClassFile.FieldType.int)) ∈ lw_g := List.mem_filter.mpr ⟨List.mem_append_right _ (List.mem_append_right _ (List.mem_append_right _ (List.mem_of_getElem? (i := 81) rfl))), rfl⟩
theorem wd_562 : (Jvm.Cond.methodLink "OrderMoneyLaw" (38 : Nat) ({ cls := "OrderMoneyModel", name := "serve", desc := "(I)I" } : Jvm.MethodName)) ∈ lw_g := List.mem_filter.mpr ⟨List.mem_append_right _ (List.mem_append_right _ (List.mem_append_right _ (List.mem_of_getElem? (i := 82) rfl))), rfl⟩
theorem wd_563 : (Jvm.Cond.instanceMethod ({ cls := "OrderMoneyModel", name := "serve", desc := "(I)I" } : Jvm.MethodName)) ∈ lw_g := List.mem_filter.mpr ⟨List.mem_append_right _ (List.mem_append_right _ (List.mem_append_right _ (List.mem_of_getElem? (i := 83) rfl))), rfl⟩
theorem wd_564 : (Jvm.Cond.selects "OrderMoneyModel" ({ cls := "OrderMoneyModel", name := "serve", desc := "(I)I" } : Jvm.MethodName) ({ cls := "OrderMoneyModel", name := "serve", desc := "(I)I" } : Jvm.MethodName)) ∈ lw_g := List.mem_filter.mpr ⟨List.mem_append_right _ (List.mem_append_right _ (List.mem_append_right _ (List.mem_of_getElem? (i := 84) rfl))), rfl⟩
theorem wd_565 : (Jvm.Cond.code ({ cls := "OrderMoneyModel", name := "serve", desc := "(I)I" } : Jvm.MethodName) prog_8_method_14_code (4 : Nat) (Option.some Jvm.ClassFile.FieldType.int)) ∈ lw_g := List.mem_filter.mpr ⟨List.mem_append_right _ (List.mem_append_right _ (List.mem_append_right _ (List.mem_of_getElem? (i := 85) rfl))), rfl⟩
theorem wd_566 : (Jvm.Cond.methodLink "OrderMoneyModel" (148 : Nat) ({ cls := "OrderMoneyModel", name := "pay", desc := "(IJIJ)I" } : Jvm.MethodName)) ∈ lw_g := List.mem_filter.mpr ⟨List.mem_append_right _ (List.mem_append_right _ (List.mem_append_right _ (List.mem_of_getElem? (i := 86) rfl))), rfl⟩
theorem wd_567 : (Jvm.Cond.methodLink "OrderMoneyLaw" (42 : Nat) ({ cls := "OrderMoneyModel", name := "answer", desc := "(I)I" } : Jvm.MethodName)) ∈ lw_g := List.mem_filter.mpr ⟨List.mem_append_right _ (List.mem_append_right _ (List.mem_append_right _ (List.mem_of_getElem? (i := 87) rfl))), rfl⟩
theorem wd_568 : (Jvm.Cond.instanceMethod ({ cls := "OrderMoneyModel", name := "answer", desc := "(I)I" } : Jvm.MethodName)) ∈ lw_g := List.mem_filter.mpr ⟨List.mem_append_right _ (List.mem_append_right _ (List.mem_append_right _ (List.mem_of_getElem? (i := 88) rfl))), rfl⟩
theorem wd_569 : (Jvm.Cond.selects "OrderMoneyModel" ({ cls := "OrderMoneyModel", name := "answer", desc := "(I)I" } : Jvm.MethodName) ({ cls := "OrderMoneyModel", name := "answer", desc := "(I)I" } : Jvm.MethodName)) ∈ lw_g := List.mem_filter.mpr ⟨List.mem_append_right _ (List.mem_append_right _ (List.mem_append_right _ (List.mem_of_getElem? (i := 89) rfl))), rfl⟩
theorem wd_570 : (Jvm.Cond.code ({ cls := "OrderMoneyModel", name := "answer", desc := "(I)I" } : Jvm.MethodName) prog_8_method_15_code (2 : Nat) (Option.some Jvm.ClassFile.FieldType.int)) ∈ lw_g := List.mem_filter.mpr ⟨List.mem_append_right _ (List.mem_append_right _ (List.mem_append_right _ (List.mem_of_getElem? (i := 90) rfl))), rfl⟩
theorem wd_571 : (Jvm.Cond.methodLink "OrderMoneyLaw" (47 : Nat) ({ cls := "OrderMoneyModel", name := "bar", desc := "(JJ)I" } : Jvm.MethodName)) ∈ lw_g := List.mem_filter.mpr ⟨List.mem_append_right _ (List.mem_append_right _ (List.mem_append_right _ (List.mem_of_getElem? (i := 91) rfl))), rfl⟩
theorem wd_572 : (Jvm.Cond.instanceMethod ({ cls := "OrderMoneyModel", name := "bar", desc := "(JJ)I" } : Jvm.MethodName)) ∈ lw_g := List.mem_filter.mpr ⟨List.mem_append_right _ (List.mem_append_right _ (List.mem_append_right _ (List.mem_of_getElem? (i := 92) rfl))), rfl⟩
theorem wd_573 : (Jvm.Cond.selects "OrderMoneyModel" ({ cls := "OrderMoneyModel", name := "bar", desc := "(JJ)I" } : Jvm.MethodName) ({ cls := "OrderMoneyModel", name := "bar", desc := "(JJ)I" } : Jvm.MethodName)) ∈ lw_g := List.mem_filter.mpr ⟨List.mem_append_right _ (List.mem_append_right _ (List.mem_append_right _ (List.mem_of_getElem? (i := 93) rfl))), rfl⟩
theorem wd_574 : (Jvm.Cond.code ({ cls := "OrderMoneyModel", name := "bar", desc := "(JJ)I" } : Jvm.MethodName) prog_8_method_16_code (6 : Nat) (Option.some Jvm.ClassFile.FieldType.int)) ∈ lw_g := List.mem_filter.mpr ⟨List.mem_append_right _ (List.mem_append_right _ (List.mem_append_right _ (List.mem_of_getElem? (i := 94) rfl))), rfl⟩
theorem wd_575 : (Jvm.Cond.methodLink "OrderMoneyLaw" (52 : Nat) ({ cls := "OrderMoneyModel", name := "since", desc := "(J)J" } : Jvm.MethodName)) ∈ lw_g := List.mem_filter.mpr ⟨List.mem_append_right _ (List.mem_append_right _ (List.mem_append_right _ (List.mem_of_getElem? (i := 95) rfl))), rfl⟩
theorem wd_576 : (Jvm.Cond.instanceMethod ({ cls := "OrderMoneyModel", name := "since", desc := "(J)J" } : Jvm.MethodName)) ∈ lw_g := List.mem_filter.mpr ⟨List.mem_append_right _ (List.mem_append_right _ (List.mem_append_right _ (List.mem_of_getElem? (i := 96) rfl))), rfl⟩
theorem wd_577 : (Jvm.Cond.selects "OrderMoneyModel" ({ cls := "OrderMoneyModel", name := "since", desc := "(J)J" } : Jvm.MethodName) ({ cls := "OrderMoneyModel", name := "since", desc := "(J)J" } : Jvm.MethodName)) ∈ lw_g := List.mem_filter.mpr ⟨List.mem_append_right _ (List.mem_append_right _ (List.mem_append_right _ (List.mem_of_getElem? (i := 97) rfl))), rfl⟩
theorem wd_578 : (Jvm.Cond.code ({ cls := "OrderMoneyModel", name := "since", desc := "(J)J" } : Jvm.MethodName) prog_8_method_17_code (4 : Nat) (Option.some Jvm.ClassFile.FieldType.long)) ∈ lw_g := List.mem_filter.mpr ⟨List.mem_append_right _ (List.mem_append_right _ (List.mem_append_right _ (List.mem_of_getElem? (i := 98) rfl))), rfl⟩
theorem wd_579 : (Jvm.Cond.constantLong "OrderMoneyModel" (152 : Nat) (-101 : Int64)) ∈ lw_g := List.mem_filter.mpr ⟨List.mem_append_right _ (List.mem_append_right _ (List.mem_append_right _ (List.mem_of_getElem? (i := 99) rfl))), rfl⟩
theorem wd_580 : (Jvm.Cond.methodLink "OrderMoneyLaw" (57 : Nat) ({ cls := "OrderMoneyModel", name := "replace", desc := "(J)I" } : Jvm.MethodName)) ∈ lw_g := List.mem_filter.mpr ⟨List.mem_append_right _ (List.mem_append_right _ (List.mem_append_right _ (List.mem_of_getElem? (i := 100) rfl))), rfl⟩
theorem wd_581 : (Jvm.Cond.instanceMethod ({ cls := "OrderMoneyModel", name := "replace", desc := "(J)I" } : Jvm.MethodName)) ∈ lw_g := List.mem_filter.mpr ⟨List.mem_append_right _ (List.mem_append_right _ (List.mem_append_right _ (List.mem_of_getElem? (i := 101) rfl))), rfl⟩
theorem wd_582 : (Jvm.Cond.selects "OrderMoneyModel" ({ cls := "OrderMoneyModel", name := "replace", desc := "(J)I" } : Jvm.MethodName) ({ cls := "OrderMoneyModel", name := "replace", desc := "(J)I" } : Jvm.MethodName)) ∈ lw_g := List.mem_filter.mpr ⟨List.mem_append_right _ (List.mem_append_right _ (List.mem_append_right _ (List.mem_of_getElem? (i := 102) rfl))), rfl⟩
theorem wd_583 : (Jvm.Cond.code ({ cls := "OrderMoneyModel", name := "replace", desc := "(J)I" } : Jvm.MethodName) prog_8_method_18_code (4 : Nat) (Option.some Jvm.ClassFile.FieldType.int)) ∈ lw_g := List.mem_filter.mpr ⟨List.mem_append_right _ (List.mem_append_right _ (List.mem_append_right _ (List.mem_of_getElem? (i := 103) rfl))), rfl⟩
theorem wd_584 : (Jvm.Cond.methodLink "OrderMoneyLaw" (85 : Nat) ({ cls := "OrderMoneyModel", name := "tick", desc := "(J)I" } : Jvm.MethodName)) ∈ lw_g := List.mem_filter.mpr ⟨List.mem_append_right _ (List.mem_append_right _ (List.mem_append_right _ (List.mem_of_getElem? (i := 104) rfl))), rfl⟩
theorem wd_585 : (Jvm.Cond.instanceMethod ({ cls := "OrderMoneyModel", name := "tick", desc := "(J)I" } : Jvm.MethodName)) ∈ lw_g := List.mem_filter.mpr ⟨List.mem_append_right _ (List.mem_append_right _ (List.mem_append_right _ (List.mem_of_getElem? (i := 105) rfl))), rfl⟩
theorem wd_586 : (Jvm.Cond.selects "OrderMoneyModel" ({ cls := "OrderMoneyModel", name := "tick", desc := "(J)I" } : Jvm.MethodName) ({ cls := "OrderMoneyModel", name := "tick", desc := "(J)I" } : Jvm.MethodName)) ∈ lw_g := List.mem_filter.mpr ⟨List.mem_append_right _ (List.mem_append_right _ (List.mem_append_right _ (List.mem_of_getElem? (i := 106) rfl))), rfl⟩
theorem wd_587 : (Jvm.Cond.code ({ cls := "OrderMoneyModel", name := "tick", desc := "(J)I" } : Jvm.MethodName) prog_8_method_19_code (6 : Nat) (Option.some Jvm.ClassFile.FieldType.int)) ∈ lw_g := List.mem_filter.mpr ⟨List.mem_append_right _ (List.mem_append_right _ (List.mem_append_right _ (List.mem_of_getElem? (i := 107) rfl))), rfl⟩
theorem wd_588 : (Jvm.Cond.methodLink "OrderMoneyLaw" (62 : Nat) ({ cls := "OrderMoneyModel", name := "cut", desc := "(IZ)I" } : Jvm.MethodName)) ∈ lw_g := List.mem_filter.mpr ⟨List.mem_append_right _ (List.mem_append_right _ (List.mem_append_right _ (List.mem_of_getElem? (i := 108) rfl))), rfl⟩
theorem wd_589 : (Jvm.Cond.instanceMethod ({ cls := "OrderMoneyModel", name := "cut", desc := "(IZ)I" } : Jvm.MethodName)) ∈ lw_g := List.mem_filter.mpr ⟨List.mem_append_right _ (List.mem_append_right _ (List.mem_append_right _ (List.mem_of_getElem? (i := 109) rfl))), rfl⟩
theorem wd_590 : (Jvm.Cond.selects "OrderMoneyModel" ({ cls := "OrderMoneyModel", name := "cut", desc := "(IZ)I" } : Jvm.MethodName) ({ cls := "OrderMoneyModel", name := "cut", desc := "(IZ)I" } : Jvm.MethodName)) ∈ lw_g := List.mem_filter.mpr ⟨List.mem_append_right _ (List.mem_append_right _ (List.mem_append_right _ (List.mem_of_getElem? (i := 110) rfl))), rfl⟩
theorem wd_591 : (Jvm.Cond.code ({ cls := "OrderMoneyModel", name := "cut", desc := "(IZ)I" } : Jvm.MethodName) prog_8_method_21_code (4 : Nat) (Option.some Jvm.ClassFile.FieldType.int)) ∈ lw_g := List.mem_filter.mpr ⟨List.mem_append_right _ (List.mem_append_right _ (List.mem_append_right _ (List.mem_of_getElem? (i := 111) rfl))), rfl⟩
theorem wd_592 : (Jvm.Cond.methodLink "OrderMoneyLaw" (67 : Nat) ({ cls := "OrderMoneyModel", name := "list", desc := "(IJ)I" } : Jvm.MethodName)) ∈ lw_g := List.mem_filter.mpr ⟨List.mem_append_right _ (List.mem_append_right _ (List.mem_append_right _ (List.mem_of_getElem? (i := 112) rfl))), rfl⟩
theorem wd_593 : (Jvm.Cond.instanceMethod ({ cls := "OrderMoneyModel", name := "list", desc := "(IJ)I" } : Jvm.MethodName)) ∈ lw_g := List.mem_filter.mpr ⟨List.mem_append_right _ (List.mem_append_right _ (List.mem_append_right _ (List.mem_of_getElem? (i := 113) rfl))), rfl⟩
theorem wd_594 : (Jvm.Cond.selects "OrderMoneyModel" ({ cls := "OrderMoneyModel", name := "list", desc := "(IJ)I" } : Jvm.MethodName) ({ cls := "OrderMoneyModel", name := "list", desc := "(IJ)I" } : Jvm.MethodName)) ∈ lw_g := List.mem_filter.mpr ⟨List.mem_append_right _ (List.mem_append_right _ (List.mem_append_right _ (List.mem_of_getElem? (i := 114) rfl))), rfl⟩
theorem wd_595 : (Jvm.Cond.code ({ cls := "OrderMoneyModel", name := "list", desc := "(IJ)I" } : Jvm.MethodName) prog_8_method_22_code (5 : Nat) (Option.some Jvm.ClassFile.FieldType.int)) ∈ lw_g := List.mem_filter.mpr ⟨List.mem_append_right _ (List.mem_append_right _ (List.mem_append_right _ (List.mem_of_getElem? (i := 115) rfl))), rfl⟩
theorem wd_596 : (Jvm.Cond.methodLink "OrderMoneyModel" (154 : Nat) ({ cls := "OrderMoneyModel", name := "listed", desc := "(I)I" } : Jvm.MethodName)) ∈ lw_g := List.mem_filter.mpr ⟨List.mem_append_right _ (List.mem_append_right _ (List.mem_append_right _ (List.mem_of_getElem? (i := 116) rfl))), rfl⟩
theorem wd_598 : (Jvm.Cond.instanceMethod ({ cls := "OrderMoneyModel", name := "listed", desc := "(I)I" } : Jvm.MethodName)) ∈ lw_g := List.mem_filter.mpr ⟨List.mem_append_right _ (List.mem_append_right _ (List.mem_append_right _ (List.mem_of_getElem? (i := 118) rfl))), rfl⟩
theorem wd_599 : (Jvm.Cond.code ({ cls := "OrderMoneyModel", name := "listed", desc := "(I)I" } : Jvm.MethodName) prog_8_method_20_code (4 : Nat) (Option.some Jvm.ClassFile.FieldType.int)) ∈ lw_g := List.mem_filter.mpr ⟨List.mem_append_right _ (List.mem_append_right _ (List.mem_append_right _ (List.mem_of_getElem? (i := 119) rfl))), rfl⟩
theorem wd_600 : (Jvm.Cond.methodLink "OrderMoneyLaw" (72 : Nat) ({ cls := "OrderMoneyModel", name := "set", desc := "(IIJ)I" } : Jvm.MethodName)) ∈ lw_g := List.mem_filter.mpr ⟨List.mem_append_right _ (List.mem_append_right _ (List.mem_append_right _ (List.mem_of_getElem? (i := 120) rfl))), rfl⟩
theorem wd_601 : (Jvm.Cond.instanceMethod ({ cls := "OrderMoneyModel", name := "set", desc := "(IIJ)I" } : Jvm.MethodName)) ∈ lw_g := List.mem_filter.mpr ⟨List.mem_append_right _ (List.mem_append_right _ (List.mem_append_right _ (List.mem_of_getElem? (i := 121) rfl))), rfl⟩
theorem wd_602 : (Jvm.Cond.selects "OrderMoneyModel" ({ cls := "OrderMoneyModel", name := "set", desc := "(IIJ)I" } : Jvm.MethodName) ({ cls := "OrderMoneyModel", name := "set", desc := "(IIJ)I" } : Jvm.MethodName)) ∈ lw_g := List.mem_filter.mpr ⟨List.mem_append_right _ (List.mem_append_right _ (List.mem_append_right _ (List.mem_of_getElem? (i := 122) rfl))), rfl⟩
theorem wd_603 : (Jvm.Cond.code ({ cls := "OrderMoneyModel", name := "set", desc := "(IIJ)I" } : Jvm.MethodName) prog_8_method_23_code (5 : Nat) (Option.some Jvm.ClassFile.FieldType.int)) ∈ lw_g := List.mem_filter.mpr ⟨List.mem_append_right _ (List.mem_append_right _ (List.mem_append_right _ (List.mem_of_getElem? (i := 123) rfl))), rfl⟩
theorem wd_604 : (Jvm.Cond.constantLong "OrderMoneyModel" (157 : Nat) (2 : Int64)) ∈ lw_g := List.mem_filter.mpr ⟨List.mem_append_right _ (List.mem_append_right _ (List.mem_append_right _ (List.mem_of_getElem? (i := 124) rfl))), rfl⟩
theorem wd_605 : (Jvm.Cond.constantLong "OrderMoneyModel" (159 : Nat) (-1000000000 : Int64)) ∈ lw_g := List.mem_filter.mpr ⟨List.mem_append_right _ (List.mem_append_right _ (List.mem_append_right _ (List.mem_of_getElem? (i := 125) rfl))), rfl⟩
theorem wd_606 : (Jvm.Cond.constantLong "OrderMoneyModel" (161 : Nat) (100000 : Int64)) ∈ lw_g := List.mem_filter.mpr ⟨List.mem_append_right _ (List.mem_append_right _ (List.mem_append_right _ (List.mem_of_getElem? (i := 126) rfl))), rfl⟩
theorem wd_607 : (Jvm.Cond.constantLong "OrderMoneyModel" (163 : Nat) (1000000000 : Int64)) ∈ lw_g := List.mem_filter.mpr ⟨List.mem_append_right _ (List.mem_append_right _ (List.mem_append_right _ (List.mem_of_getElem? (i := 127) rfl))), rfl⟩
theorem wd_608 : (Jvm.Cond.methodLink "OrderMoneyLaw" (77 : Nat) ({ cls := "OrderMoneyModel", name := "collect", desc := "(IJI)I" } : Jvm.MethodName)) ∈ lw_g := List.mem_filter.mpr ⟨List.mem_append_right _ (List.mem_append_right _ (List.mem_append_right _ (List.mem_of_getElem? (i := 128) rfl))), rfl⟩
theorem wd_609 : (Jvm.Cond.instanceMethod ({ cls := "OrderMoneyModel", name := "collect", desc := "(IJI)I" } : Jvm.MethodName)) ∈ lw_g := List.mem_filter.mpr ⟨List.mem_append_right _ (List.mem_append_right _ (List.mem_append_right _ (List.mem_of_getElem? (i := 129) rfl))), rfl⟩
theorem wd_610 : (Jvm.Cond.selects "OrderMoneyModel" ({ cls := "OrderMoneyModel", name := "collect", desc := "(IJI)I" } : Jvm.MethodName) ({ cls := "OrderMoneyModel", name := "collect", desc := "(IJI)I" } : Jvm.MethodName)) ∈ lw_g := List.mem_filter.mpr ⟨List.mem_append_right _ (List.mem_append_right _ (List.mem_append_right _ (List.mem_of_getElem? (i := 130) rfl))), rfl⟩
theorem wd_611 : (Jvm.Cond.code ({ cls := "OrderMoneyModel", name := "collect", desc := "(IJI)I" } : Jvm.MethodName) prog_8_method_24_code (5 : Nat) (Option.some Jvm.ClassFile.FieldType.int)) ∈ lw_g := List.mem_filter.mpr ⟨List.mem_append_right _ (List.mem_append_right _ (List.mem_append_right _ (List.mem_of_getElem? (i := 131) rfl))), rfl⟩
theorem wd_612 : (Jvm.Cond.constantLong "OrderMoneyModel" (165 : Nat) (9999 : Int64)) ∈ lw_g := List.mem_filter.mpr ⟨List.mem_append_right _ (List.mem_append_right _ (List.mem_append_right _ (List.mem_of_getElem? (i := 132) rfl))), rfl⟩
theorem wd_613 : (Jvm.Cond.methodLink "OrderMoneyLaw" (81 : Nat) ({ cls := "OrderMoneyModel", name := "pass", desc := "(I)I" } : Jvm.MethodName)) ∈ lw_g := List.mem_filter.mpr ⟨List.mem_append_right _ (List.mem_append_right _ (List.mem_append_right _ (List.mem_of_getElem? (i := 133) rfl))), rfl⟩
theorem wd_614 : (Jvm.Cond.instanceMethod ({ cls := "OrderMoneyModel", name := "pass", desc := "(I)I" } : Jvm.MethodName)) ∈ lw_g := List.mem_filter.mpr ⟨List.mem_append_right _ (List.mem_append_right _ (List.mem_append_right _ (List.mem_of_getElem? (i := 134) rfl))), rfl⟩
theorem wd_615 : (Jvm.Cond.selects "OrderMoneyModel" ({ cls := "OrderMoneyModel", name := "pass", desc := "(I)I" } : Jvm.MethodName) ({ cls := "OrderMoneyModel", name := "pass", desc := "(I)I" } : Jvm.MethodName)) ∈ lw_g := List.mem_filter.mpr ⟨List.mem_append_right _ (List.mem_append_right _ (List.mem_append_right _ (List.mem_of_getElem? (i := 135) rfl))), rfl⟩
theorem wd_616 : (Jvm.Cond.code ({ cls := "OrderMoneyModel", name := "pass", desc := "(I)I" } : Jvm.MethodName) prog_8_method_25_code (5 : Nat) (Option.some Jvm.ClassFile.FieldType.int)) ∈ lw_g := List.mem_filter.mpr ⟨List.mem_append_right _ (List.mem_append_right _ (List.mem_append_right _ (List.mem_of_getElem? (i := 136) rfl))), rfl⟩
theorem wd_617 : (Jvm.Cond.methodLink "OrderMoneyLaw" (90 : Nat) ({ cls := "OrderMoneyModel", name := "about", desc := "(JI)J" } : Jvm.MethodName)) ∈ lw_g := List.mem_filter.mpr ⟨List.mem_append_right _ (List.mem_append_right _ (List.mem_append_right _ (List.mem_of_getElem? (i := 137) rfl))), rfl⟩
theorem wd_618 : (Jvm.Cond.instanceMethod ({ cls := "OrderMoneyModel", name := "about", desc := "(JI)J" } : Jvm.MethodName)) ∈ lw_g := List.mem_filter.mpr ⟨List.mem_append_right _ (List.mem_append_right _ (List.mem_append_right _ (List.mem_of_getElem? (i := 138) rfl))), rfl⟩
theorem wd_619 : (Jvm.Cond.selects "OrderMoneyModel" ({ cls := "OrderMoneyModel", name := "about", desc := "(JI)J" } : Jvm.MethodName) ({ cls := "OrderMoneyModel", name := "about", desc := "(JI)J" } : Jvm.MethodName)) ∈ lw_g := List.mem_filter.mpr ⟨List.mem_append_right _ (List.mem_append_right _ (List.mem_append_right _ (List.mem_of_getElem? (i := 139) rfl))), rfl⟩
theorem wd_620 : (Jvm.Cond.code ({ cls := "OrderMoneyModel", name := "about", desc := "(JI)J" } : Jvm.MethodName) prog_8_method_26_code (5 : Nat) (Option.some Jvm.ClassFile.FieldType.long)) ∈ lw_g := List.mem_filter.mpr ⟨List.mem_append_right _ (List.mem_append_right _ (List.mem_append_right _ (List.mem_of_getElem? (i := 140) rfl))), rfl⟩
theorem wd_621 : (Jvm.Cond.constantLong "OrderMoneyModel" (170 : Nat) (-102 : Int64)) ∈ lw_g := List.mem_filter.mpr ⟨List.mem_append_right _ (List.mem_append_right _ (List.mem_append_right _ (List.mem_of_getElem? (i := 141) rfl))), rfl⟩
theorem wd_622 : (Jvm.Cond.methodLink "OrderMoneyLaw" (95 : Nat) ({ cls := "OrderMoneyModel", name := "till", desc := "(I)J" } : Jvm.MethodName)) ∈ lw_g := List.mem_filter.mpr ⟨List.mem_append_right _ (List.mem_append_right _ (List.mem_append_right _ (List.mem_of_getElem? (i := 142) rfl))), rfl⟩
theorem wd_623 : (Jvm.Cond.instanceMethod ({ cls := "OrderMoneyModel", name := "till", desc := "(I)J" } : Jvm.MethodName)) ∈ lw_g := List.mem_filter.mpr ⟨List.mem_append_right _ (List.mem_append_right _ (List.mem_append_right _ (List.mem_of_getElem? (i := 143) rfl))), rfl⟩
theorem wd_624 : (Jvm.Cond.selects "OrderMoneyModel" ({ cls := "OrderMoneyModel", name := "till", desc := "(I)J" } : Jvm.MethodName) ({ cls := "OrderMoneyModel", name := "till", desc := "(I)J" } : Jvm.MethodName)) ∈ lw_g := List.mem_filter.mpr ⟨List.mem_append_right _ (List.mem_append_right _ (List.mem_append_right _ (List.mem_of_getElem? (i := 144) rfl))), rfl⟩
theorem wd_625 : (Jvm.Cond.code ({ cls := "OrderMoneyModel", name := "till", desc := "(I)J" } : Jvm.MethodName) prog_8_method_27_code (2 : Nat) (Option.some Jvm.ClassFile.FieldType.long)) ∈ lw_g := List.mem_filter.mpr ⟨List.mem_append_right _ (List.mem_append_right _ (List.mem_append_right _ (List.mem_of_getElem? (i := 145) rfl))), rfl⟩
theorem wd_626 : (Jvm.Cond.methodLink "OrderMoneyLaw" (99 : Nat) ({ cls := "OrderMoneyModel", name := "all", desc := "(I)J" } : Jvm.MethodName)) ∈ lw_g := List.mem_filter.mpr ⟨List.mem_append_right _ (List.mem_append_right _ (List.mem_append_right _ (List.mem_of_getElem? (i := 146) rfl))), rfl⟩
theorem wd_627 : (Jvm.Cond.instanceMethod ({ cls := "OrderMoneyModel", name := "all", desc := "(I)J" } : Jvm.MethodName)) ∈ lw_g := List.mem_filter.mpr ⟨List.mem_append_right _ (List.mem_append_right _ (List.mem_append_right _ (List.mem_of_getElem? (i := 147) rfl))), rfl⟩
theorem wd_628 : (Jvm.Cond.selects "OrderMoneyModel" ({ cls := "OrderMoneyModel", name := "all", desc := "(I)J" } : Jvm.MethodName) ({ cls := "OrderMoneyModel", name := "all", desc := "(I)J" } : Jvm.MethodName)) ∈ lw_g := List.mem_filter.mpr ⟨List.mem_append_right _ (List.mem_append_right _ (List.mem_append_right _ (List.mem_of_getElem? (i := 148) rfl))), rfl⟩
theorem wd_629 : (Jvm.Cond.code ({ cls := "OrderMoneyModel", name := "all", desc := "(I)J" } : Jvm.MethodName) prog_8_method_28_code (2 : Nat) (Option.some Jvm.ClassFile.FieldType.long)) ∈ lw_g := List.mem_filter.mpr ⟨List.mem_append_right _ (List.mem_append_right _ (List.mem_append_right _ (List.mem_of_getElem? (i := 149) rfl))), rfl⟩
theorem wd_630 : (Jvm.Cond.constantLong "OrderMoneyModel" (172 : Nat) (8 : Int64)) ∈ lw_g := List.mem_filter.mpr ⟨List.mem_append_right _ (List.mem_append_right _ (List.mem_append_right _ (List.mem_of_getElem? (i := 150) rfl))), rfl⟩
theorem wd_631 : (Jvm.Cond.constantLong "OrderMoneyLaw" (13 : Nat) (4294967295 : Int64)) ∈ lw_g := List.mem_filter.mpr ⟨List.mem_append_right _ (List.mem_append_right _ (List.mem_append_right _ (List.mem_of_getElem? (i := 151) rfl))), rfl⟩
theorem wq_0 : Cond.selects "OrderMoney" ⟨"OrderMoney", "officeAt", "(I)LOrderMoney$Office;"⟩ ⟨"OrderMoney", "officeAt", "(I)LOrderMoney$Office;"⟩ ∈ lw_g := List.mem_filter.mpr ⟨List.mem_append_left _ (List.mem_map.mpr ⟨(⟨"OrderMoney", "officeAt", "(I)LOrderMoney$Office;"⟩, 10), by decide +kernel, rfl⟩), rfl⟩
theorem wq_1 : Cond.selects "OrderMoney" ⟨"OrderMoney", "currencyAt", "(I)LOrderMoney$Currency;"⟩ ⟨"OrderMoney", "currencyAt", "(I)LOrderMoney$Currency;"⟩ ∈ lw_g := List.mem_filter.mpr ⟨List.mem_append_left _ (List.mem_map.mpr ⟨(⟨"OrderMoney", "currencyAt", "(I)LOrderMoney$Currency;"⟩, 10), by decide +kernel, rfl⟩), rfl⟩
theorem wq_2 : Cond.selects "OrderMoney" ⟨"OrderMoney", "addOrder", "(LOrderMoney$Office;JJLOrderMoney$Currency;I)I"⟩ ⟨"OrderMoney", "addOrder", "(LOrderMoney$Office;JJLOrderMoney$Currency;I)I"⟩ ∈ lw_g := List.mem_filter.mpr ⟨List.mem_append_left _ (List.mem_map.mpr ⟨(⟨"OrderMoney", "addOrder", "(LOrderMoney$Office;JJLOrderMoney$Currency;I)I"⟩, 10), by decide +kernel, rfl⟩), rfl⟩
theorem wq_3 : Cond.selects "OrderMoney" ⟨"OrderMoney", "find", "(J)LOrderMoney$Order;"⟩ ⟨"OrderMoney", "find", "(J)LOrderMoney$Order;"⟩ ∈ lw_g := List.mem_filter.mpr ⟨List.mem_append_left _ (List.mem_map.mpr ⟨(⟨"OrderMoney", "find", "(J)LOrderMoney$Order;"⟩, 10), by decide +kernel, rfl⟩), rfl⟩
theorem wq_4 : Cond.selects "OrderMoney" ⟨"OrderMoney", "goThroughSteps", "(LOrderMoney$Office;LOrderMoney$Order;IJ)I"⟩ ⟨"OrderMoney", "goThroughSteps", "(LOrderMoney$Office;LOrderMoney$Order;IJ)I"⟩ ∈ lw_g := List.mem_filter.mpr ⟨List.mem_append_left _ (List.mem_map.mpr ⟨(⟨"OrderMoney", "goThroughSteps", "(LOrderMoney$Office;LOrderMoney$Order;IJ)I"⟩, 10), by decide +kernel, rfl⟩), rfl⟩
theorem wq_5 : Cond.selects "OrderMoney" ⟨"OrderMoney", "takeStep", "(ILOrderMoney$Office;LOrderMoney$Order;IJ)I"⟩ ⟨"OrderMoney", "takeStep", "(ILOrderMoney$Office;LOrderMoney$Order;IJ)I"⟩ ∈ lw_g := List.mem_filter.mpr ⟨List.mem_append_left _ (List.mem_map.mpr ⟨(⟨"OrderMoney", "takeStep", "(ILOrderMoney$Office;LOrderMoney$Order;IJ)I"⟩, 10), by decide +kernel, rfl⟩), rfl⟩
theorem wq_6 : Cond.selects "OrderMoney" ⟨"OrderMoney", "writePaid", "(LOrderMoney$Office;LOrderMoney$Order;J)V"⟩ ⟨"OrderMoney", "writePaid", "(LOrderMoney$Office;LOrderMoney$Order;J)V"⟩ ∈ lw_g := List.mem_filter.mpr ⟨List.mem_append_left _ (List.mem_map.mpr ⟨(⟨"OrderMoney", "writePaid", "(LOrderMoney$Office;LOrderMoney$Order;J)V"⟩, 10), by decide +kernel, rfl⟩), rfl⟩
theorem wq_7 : Cond.selects "OrderMoney" ⟨"OrderMoney", "undoSteps", "(ILOrderMoney$Office;LOrderMoney$Order;)V"⟩ ⟨"OrderMoney", "undoSteps", "(ILOrderMoney$Office;LOrderMoney$Order;)V"⟩ ∈ lw_g := List.mem_filter.mpr ⟨List.mem_append_left _ (List.mem_map.mpr ⟨(⟨"OrderMoney", "undoSteps", "(ILOrderMoney$Office;LOrderMoney$Order;)V"⟩, 10), by decide +kernel, rfl⟩), rfl⟩
theorem wq_8 : Cond.selects "OrderMoney" ⟨"OrderMoney", "emptyListOf", "(LOrderMoney$Office;)V"⟩ ⟨"OrderMoney", "emptyListOf", "(LOrderMoney$Office;)V"⟩ ∈ lw_g := List.mem_filter.mpr ⟨List.mem_append_left _ (List.mem_map.mpr ⟨(⟨"OrderMoney", "emptyListOf", "(LOrderMoney$Office;)V"⟩, 10), by decide +kernel, rfl⟩), rfl⟩
theorem wq_9 : Cond.selects "OrderMoney" ⟨"OrderMoney", "changeTill", "(LOrderMoney$Office;J)I"⟩ ⟨"OrderMoney", "changeTill", "(LOrderMoney$Office;J)I"⟩ ∈ lw_g := List.mem_filter.mpr ⟨List.mem_append_left _ (List.mem_map.mpr ⟨(⟨"OrderMoney", "changeTill", "(LOrderMoney$Office;J)I"⟩, 10), by decide +kernel, rfl⟩), rfl⟩
theorem wq_10 : Cond.selects "OrderMoney" ⟨"OrderMoney", "passOn", "(LOrderMoney$Collected;I)Z"⟩ ⟨"OrderMoney", "passOn", "(LOrderMoney$Collected;I)Z"⟩ ∈ lw_g := List.mem_filter.mpr ⟨List.mem_append_left _ (List.mem_map.mpr ⟨(⟨"OrderMoney", "passOn", "(LOrderMoney$Collected;I)Z"⟩, 10), by decide +kernel, rfl⟩), rfl⟩
theorem wq_11 : Cond.selects "OrderMoney" ⟨"OrderMoney", "sendBack", "(LOrderMoney$Order;)Z"⟩ ⟨"OrderMoney", "sendBack", "(LOrderMoney$Order;)Z"⟩ ∈ lw_g := List.mem_filter.mpr ⟨List.mem_append_left _ (List.mem_map.mpr ⟨(⟨"OrderMoney", "sendBack", "(LOrderMoney$Order;)Z"⟩, 10), by decide +kernel, rfl⟩), rfl⟩
theorem wq_12 : Cond.selects "OrderMoneyModel" ⟨"OrderMoneyModel", "add", "(IJJII)I"⟩ ⟨"OrderMoneyModel", "add", "(IJJII)I"⟩ ∈ lw_g := List.mem_filter.mpr ⟨List.mem_append_left _ (List.mem_map.mpr ⟨(⟨"OrderMoneyModel", "add", "(IJJII)I"⟩, 32), by decide +kernel, rfl⟩), rfl⟩
theorem wq_13 : Cond.selects "OrderMoneyModel" ⟨"OrderMoneyModel", "find", "(J)I"⟩ ⟨"OrderMoneyModel", "find", "(J)I"⟩ ∈ lw_g := List.mem_filter.mpr ⟨List.mem_append_left _ (List.mem_map.mpr ⟨(⟨"OrderMoneyModel", "find", "(J)I"⟩, 32), by decide +kernel, rfl⟩), rfl⟩
theorem wq_14 : Cond.selects "OrderMoneyModel" ⟨"OrderMoneyModel", "failsNow", "(II)Z"⟩ ⟨"OrderMoneyModel", "failsNow", "(II)Z"⟩ ∈ lw_g := List.mem_filter.mpr ⟨List.mem_append_left _ (List.mem_map.mpr ⟨(⟨"OrderMoneyModel", "failsNow", "(II)Z"⟩, 32), by decide +kernel, rfl⟩), rfl⟩
theorem wq_15 : Cond.selects "OrderMoneyModel" ⟨"OrderMoneyModel", "sumOf", "(I)J"⟩ ⟨"OrderMoneyModel", "sumOf", "(I)J"⟩ ∈ lw_g := List.mem_filter.mpr ⟨List.mem_append_left _ (List.mem_map.mpr ⟨(⟨"OrderMoneyModel", "sumOf", "(I)J"⟩, 32), by decide +kernel, rfl⟩), rfl⟩
theorem wq_16 : Cond.selects "OrderMoneyModel" ⟨"OrderMoneyModel", "listed", "(I)I"⟩ ⟨"OrderMoneyModel", "listed", "(I)I"⟩ ∈ lw_g := List.mem_filter.mpr ⟨List.mem_append_left _ (List.mem_map.mpr ⟨(⟨"OrderMoneyModel", "listed", "(I)I"⟩, 32), by decide +kernel, rfl⟩), rfl⟩
theorem gw_Office_init : GoodIn lw_g ws_Office_init := gw_of wd_30
theorem gw_Currency_init : GoodIn lw_g ws_Currency_init := gw_of wd_70
theorem gw_X_init : GoodIn lw_g ws_X_init := gw_of wd_13
theorem gw_X_officeAt : GoodIn lw_g ws_X_officeAt := gw_of wd_117
theorem gw_X_currencyAt : GoodIn lw_g ws_X_currencyAt := gw_of wd_121
theorem gw_X_isOrderable : GoodIn lw_g ws_X_isOrderable := gw_of wd_124
theorem gw_X_numberOf : GoodIn lw_g ws_X_numberOf := gw_of wd_132
theorem gw_Order_init : GoodIn lw_g ws_Order_init := gw_of wd_136
theorem gw_X_addOrder : GoodIn lw_g ws_X_addOrder := gw_of wd_129
theorem gw_X_order : GoodIn lw_g ws_X_order := gw_of wd_113
theorem gw_X_find : GoodIn lw_g ws_X_find := gw_of wd_191
theorem gw_Office_mayTouch : GoodIn lw_g ws_Office_mayTouch := gw_of wd_196
theorem gw_Office_takesFailing : GoodIn lw_g ws_Office_takesFailing := gw_of wd_205
theorem gw_Order_sum : GoodIn lw_g ws_Order_sum := gw_of wd_213
theorem gw_Office_keepsLimit : GoodIn lw_g ws_Office_keepsLimit := gw_of wd_218
theorem gw_Office_giveOut : GoodIn lw_g ws_Office_giveOut := gw_of wd_222
theorem gw_Order_leaveList : GoodIn lw_g ws_Order_leaveList := gw_of wd_234
theorem gw_Order_become : GoodIn lw_g ws_Order_become := gw_of wd_230
theorem gw_Office_know : GoodIn lw_g ws_Office_know := gw_of wd_238
theorem gw_Office_knownWith : GoodIn lw_g ws_Office_knownWith := gw_of wd_243
theorem gw_X_writePaid : GoodIn lw_g ws_X_writePaid := gw_of wd_226
theorem gw_X_takeStep : GoodIn lw_g ws_X_takeStep := gw_of wd_209
theorem gw_X_undoSteps : GoodIn lw_g ws_X_undoSteps := gw_of wd_247
theorem gw_X_goThroughSteps : GoodIn lw_g ws_X_goThroughSteps := gw_of wd_201
theorem gw_X_pay : GoodIn lw_g ws_X_pay := gw_of wd_187
theorem gw_Office_tellToFail : GoodIn lw_g ws_Office_tellToFail := gw_of wd_255
theorem gw_X_fails : GoodIn lw_g ws_X_fails := gw_of wd_251
theorem gw_Math_floorMod : GoodIn lw_g ws_Math_floorMod := gw_of wd_265
theorem gw_X_placeOfTry : GoodIn lw_g ws_X_placeOfTry := gw_of wd_262
theorem gw_Try_init : GoodIn lw_g ws_Try_init := gw_of wd_269
theorem gw_X_ask : GoodIn lw_g ws_X_ask := gw_of wd_259
theorem gw_X_serve : GoodIn lw_g ws_X_serve := gw_of wd_295
theorem gw_X_answer : GoodIn lw_g ws_X_answer := gw_of wd_303
theorem gw_X_bar : GoodIn lw_g ws_X_bar := gw_of wd_307
theorem gw_X_since : GoodIn lw_g ws_X_since := gw_of wd_311
theorem gw_Order_isUnpaid : GoodIn lw_g ws_Order_isUnpaid := gw_of wd_320
theorem gw_X_replace : GoodIn lw_g ws_X_replace := gw_of wd_316
theorem gw_X_emptyListOf : GoodIn lw_g ws_X_emptyListOf := gw_of wd_328
theorem gw_X_cut : GoodIn lw_g ws_X_cut := gw_of wd_324
theorem gw_X_list : GoodIn lw_g ws_X_list := gw_of wd_333
theorem gw_X_changeTill : GoodIn lw_g ws_X_changeTill := gw_of wd_341
theorem gw_X_changeLimit : GoodIn lw_g ws_X_changeLimit := gw_of wd_346
theorem gw_X_changeRate : GoodIn lw_g ws_X_changeRate := gw_of wd_350
theorem gw_X_set : GoodIn lw_g ws_X_set := gw_of wd_337
theorem gw_X_isCollectDay : GoodIn lw_g ws_X_isCollectDay := gw_of wd_358
theorem gw_Collected_init : GoodIn lw_g ws_Collected_init := gw_of wd_362
theorem gw_X_collect : GoodIn lw_g ws_X_collect := gw_of wd_355
theorem gw_X_passOn : GoodIn lw_g ws_X_passOn := gw_of wd_384
theorem gw_X_pass : GoodIn lw_g ws_X_pass := gw_of wd_380
theorem gw_X_sendBack : GoodIn lw_g ws_X_sendBack := gw_of wd_392
theorem gw_X_tick : GoodIn lw_g ws_X_tick := gw_of wd_388
theorem gw_X_placeOf : GoodIn lw_g ws_X_placeOf := gw_of wd_399
theorem gw_X_about : GoodIn lw_g ws_X_about := gw_of wd_396
theorem gw_X_till : GoodIn lw_g ws_X_till := gw_of wd_404
theorem gw_X_all : GoodIn lw_g ws_X_all := gw_of wd_408
theorem gw_M_init : GoodIn lw_g ws_M_init := gw_of wd_413
theorem gw_M_in : GoodIn lw_g ws_M_in := gw_of wd_526
theorem gw_M_isOffice : GoodIn lw_g ws_M_isOffice := gw_of wd_522
theorem gw_M_numberOf : GoodIn lw_g ws_M_numberOf := gw_of wd_535
theorem gw_M_find : GoodIn lw_g ws_M_find := gw_of wd_543
theorem gw_M_add : GoodIn lw_g ws_M_add := gw_of wd_532
theorem gw_M_order : GoodIn lw_g ws_M_order := gw_of wd_519
theorem gw_M_sumOf : GoodIn lw_g ws_M_sumOf := gw_of wd_552
theorem gw_M_failsNow : GoodIn lw_g ws_M_failsNow := gw_of wd_547
theorem gw_M_pay : GoodIn lw_g ws_M_pay := gw_of wd_539
theorem gw_M_fails : GoodIn lw_g ws_M_fails := gw_of wd_556
theorem gw_M_ask : GoodIn lw_g ws_M_ask := gw_of wd_561
theorem gw_M_serve : GoodIn lw_g ws_M_serve := gw_of wd_565
theorem gw_M_answer : GoodIn lw_g ws_M_answer := gw_of wd_570
theorem gw_M_bar : GoodIn lw_g ws_M_bar := gw_of wd_574
theorem gw_M_since : GoodIn lw_g ws_M_since := gw_of wd_578
theorem gw_M_replace : GoodIn lw_g ws_M_replace := gw_of wd_583
theorem gw_M_tick : GoodIn lw_g ws_M_tick := gw_of wd_587
theorem gw_M_listed : GoodIn lw_g ws_M_listed := gw_of wd_599
theorem gw_M_cut : GoodIn lw_g ws_M_cut := gw_of wd_591
theorem gw_M_list : GoodIn lw_g ws_M_list := gw_of wd_595
theorem gw_M_set : GoodIn lw_g ws_M_set := gw_of wd_603
theorem gw_M_collect : GoodIn lw_g ws_M_collect := gw_of wd_611
theorem gw_M_pass : GoodIn lw_g ws_M_pass := gw_of wd_616
theorem gw_M_about : GoodIn lw_g ws_M_about := gw_of wd_620
theorem gw_M_till : GoodIn lw_g ws_M_till := gw_of wd_625
theorem gw_M_all : GoodIn lw_g ws_M_all := gw_of wd_629
